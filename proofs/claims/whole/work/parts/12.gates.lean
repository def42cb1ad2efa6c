/-! PURE: top, product, quotient, root on numbers -/
theorem fc_log2_div {r j : Nat} (h : r / 2 ^ j ≠ 0) : r.log2 = (r / 2 ^ j).log2 + j := by
  have hr : r ≠ 0 := fun e => h (by rw [e, Nat.zero_div])
  have hp : 0 < 2 ^ j := Nat.pow_pos (by decide)
  obtain ⟨h1, h2⟩ := (Nat.log2_eq_iff h).mp rfl
  rw [Nat.log2_eq_iff hr]
  constructor
  · rw [Nat.pow_add]
    exact (Nat.le_div_iff_mul_le hp).mp h1
  · rw [show (r / 2 ^ j).log2 + j + 1 = (r / 2 ^ j).log2 + 1 + j by omega, Nat.pow_add]
    exact (Nat.div_lt_iff_lt_mul hp).mp h2
theorem fg_top_u : ∀ n, n ≤ 6 → ∀ (a : Nat) (rest : Int64), fc_u rest ≠ 0 → fc_u rest < 2 ^ 2 ^ n → a < 64 → a % 2 ^ n = 0 → fg_top_it n (lN a) rest = lN (a + (fc_u rest).log2) := by
  intro n
  induction n with
  | zero =>
    intro _ a rest h0 h1 _ _
    have : fc_u rest = 1 := by
      have h1 : fc_u rest < 2 := h1
      omega
    rw [this]
    rfl
  | succ n ih =>
    intro hn a rest h0 h1 ha hm
    have hn6 : n < 6 := by omega
    have hp := fc_pw64 hn6
    show fg_top_it n (lN a ||| fc_shl (fg_any (fc_ushr rest (fc_ishl 1 (nI n)))) (nI n)) (fg_choose (fg_any (fc_ushr rest (fc_ishl 1 (nI n)))) (fc_ushr rest (fc_ishl 1 (nI n))) rest) = _
    rw [fc_pw n hn6]
    have hu := fc_u_ushr rest hp
    generalize fc_ushr rest (nI (2 ^ n)) = up at hu ⊢
    have e2 : 2 ^ (n + 1) = 2 ^ n + 2 ^ n := by rw [Nat.pow_succ]; omega
    have hmn : a % 2 ^ n = 0 := by
      have := Nat.mod_mod_of_dvd a (show 2 ^ n ∣ 2 ^ (n + 1) from ⟨2, by rw [Nat.pow_succ]⟩)
      rw [hm, Nat.zero_mod] at this
      exact this.symm
    by_cases hz : fc_u up = 0
    · have hup : up = 0 := fc_u_inj hz
      subst hup
      rw [show fg_any (0 : Int64) = fc_bit false by decide +kernel, fg_choose_bit, if_neg (by decide)]
      have e0 : fc_shl (fc_bit false) (nI n) = 0 := by
        rw [show fc_bit false = lN 0 from rfl, fc_lN_shl 0 (by omega), Nat.zero_mul]; rfl
      rw [e0, show lN a ||| (0 : Int64) = lN a from by apply fc_u_inj; rw [fc_u_or]; show _ ||| 0 = _; rw [Nat.or_zero]]
      refine ih (by omega) a rest h0 ?_ ha hmn
      have hz' : fc_u rest / 2 ^ 2 ^ n = 0 := by rw [← hu]; rfl
      exact (Nat.div_eq_zero_iff_lt (Nat.pow_pos (by decide))).mp hz'
    · have hup : up ≠ 0 := fun e => hz (by rw [e]; rfl)
      rw [fg_any_bit, decide_eq_true hup, fg_choose_bit, if_pos rfl]
      have hq : a / 2 ^ (n + 1) * 2 ^ (n + 1) = a := Nat.div_mul_cancel (Nat.dvd_of_mod_eq_zero hm)
      have e1 : lN a ||| fc_shl (fc_bit true) (nI n) = lN (a + 2 ^ n) := by
        rw [show fc_bit true = lN 1 from rfl, fc_lN_shl 1 (by omega), Nat.one_mul]
        have h := fc_lN_or_add (a := a / 2 ^ (n + 1)) (b := 2 ^ n) (k := n + 1) (by omega) (by rw [hq]; omega)
        rwa [hq] at h
      have ha' : a + 2 ^ n < 64 := by
        have hc : 2 ^ (n + 1) ∣ 64 := ⟨2 ^ (6 - (n + 1)), by rw [← Nat.pow_add, show n + 1 + (6 - (n + 1)) = 6 by omega]⟩
        obtain ⟨d, hd⟩ := hc
        have hlt : a / 2 ^ (n + 1) < d := by
          rw [Nat.div_lt_iff_lt_mul (Nat.pow_pos (by decide)), Nat.mul_comm, ← hd]; exact ha
        have : (a / 2 ^ (n + 1) + 1) * 2 ^ (n + 1) ≤ d * 2 ^ (n + 1) := Nat.mul_le_mul_right _ hlt
        rw [Nat.add_mul, hq, Nat.mul_comm d, ← hd] at this
        have hp2 : 0 < 2 ^ n := Nat.pow_pos (by decide)
        omega
      have hlt : fc_u up < 2 ^ 2 ^ n := by
        rw [hu, Nat.div_lt_iff_lt_mul (Nat.pow_pos (by decide)), ← Nat.pow_add, ← e2]
        exact h1
      have hm' : (a + 2 ^ n) % 2 ^ n = 0 := by rw [Nat.add_mod_right, hmn]
      rw [e1, ih (by omega) (a + 2 ^ n) up hz hlt ha' hm', hu, fc_log2_div (r := fc_u rest) (j := 2 ^ n) (by rw [← hu]; exact hz)]
      congr 1
      omega
theorem fg_top_lN {a : Nat} (h0 : a ≠ 0) (ha : a < 2 ^ 64) : fg_top (lN a) = lN a.log2 := by
  have h := fg_top_u 6 (Nat.le_refl _) 0 (lN a) (by rw [fc_u_lNs ha]; exact h0) (by rw [fc_u_lNs ha]; exact ha) (by decide) (by decide)
  rw [fc_u_lNs ha, Nat.zero_add] at h
  exact h
/-- the product -/
theorem fg_prod_u (a : Nat) {b : Nat} (hb : b < 2 ^ 64) : ∀ k, k ≤ 63 → fg_prod_it (lN a) (lN b) k = lN (a * (b % 2 ^ k)) := by
  intro k
  induction k with
  | zero =>
    intro _
    rw [Nat.pow_zero, Nat.mod_one]; rfl
  | succ k ih =>
    intro hk
    show fg_sum (fg_prod_it (lN a) (lN b) k) (fc_shl (lN a) (nI k) &&& fg_fan (fc_ushr (lN b) (nI k))) = _
    rw [fg_sum_eq, ih (by omega), fc_lN_shl a (by omega), fc_mod_succ]
    have hbit : fc_b (fc_ushr (lN b) (nI k)) 0 = b.testBit k := by rw [fc_b_shift _ (by omega), fc_u_lNs hb]
    have e : lN (a * 2 ^ k) &&& fg_fan (fc_ushr (lN b) (nI k)) = lN (a * 2 ^ k * (b.testBit k).toNat) := by
      apply fc_ext; intro i hi
      rw [fc_b_and, fg_fan_b _ hi, hbit]
      cases b.testBit k
      · show (_ && false) = fc_b (lN (_ * 0)) i
        rw [Nat.mul_zero, Bool.and_false]
        exact (fc_b_0 i).symm
      · show (_ && true) = fc_b (lN (_ * 1)) i
        rw [Nat.mul_one, Bool.and_true]
    rw [e, lN_add, Nat.mul_add, Nat.mul_assoc]
/-- longs of small numbers, compared -/
theorem fc_lN_sub_neg {a b : Nat} (ha : a < 2 ^ 62) (hb : b < 2 ^ 62) : (lN a - lN b < 0) ↔ a < b := by
  rw [Int64.lt_iff_toInt_lt]
  have e : lN a - lN b = Int64.ofInt ((a : Int) - b) := by
    rw [Int64.ofInt_sub, Int64.ofInt_eq_ofNat, Int64.ofInt_eq_ofNat]; rfl
  rw [e, Int64.toInt_ofInt_of_le (by omega) (by omega)]
  show (a : Int) - b < 0 ↔ _
  omega
theorem fc_bit_x1 (c : Bool) : fc_bit c ^^^ 1 = fc_bit (!c) := by cases c <;> decide
theorem fg_quo_f_bit {r b : Nat} (hr : r < 2 ^ 62) (hb : b < 2 ^ 62) : fg_quo_f (lN r - lN b) = fc_bit (decide (b ≤ r)) := by
  unfold fg_quo_f
  rw [fg_neg_bit, fc_bit_x1]
  congr 1
  by_cases h : b ≤ r
  · rw [decide_eq_true h, decide_eq_false (fun q => by have := (fc_lN_sub_neg hr hb).mp q; omega)]; rfl
  · rw [decide_eq_false h, decide_eq_true ((fc_lN_sub_neg hr hb).mpr (by omega))]; rfl
theorem fg_quo_it_u {a b : Nat} (ha : a < 2 ^ 60) (hb0 : 0 < b) (hb : b < 2 ^ 60) : ∀ n, n ≤ 60 → ∀ ans rest : Nat, a / 2 ^ n = ans * b + rest → rest < b → fg_quo_it (lN a) (lN b) n (lN ans) (lN rest) = (lN (a / b), lN (a % b)) := by
  intro n
  induction n with
  | zero =>
    intro _ ans rest h1 h2
    rw [Nat.pow_zero, Nat.div_one] at h1
    have hq : a / b = ans := by
      rw [h1, Nat.mul_comm, Nat.mul_add_div hb0, Nat.div_eq_of_lt h2, Nat.add_zero]
    have hm : a % b = rest := by
      rw [h1, Nat.mul_comm, Nat.mul_add_mod, Nat.mod_eq_of_lt h2]
    rw [hq, hm]; rfl
  | succ n ih =>
    intro hn ans rest h1 h2
    show fg_quo_it (lN a) (lN b) n (fc_shl (lN ans) 1 ||| fg_quo_f (fg_diff (fg_quo_r (lN a) (lN rest) n) (lN b))) (fg_choose (fg_quo_f (fg_diff (fg_quo_r (lN a) (lN rest) n) (lN b))) (fg_diff (fg_quo_r (lN a) (lN rest) n) (lN b)) (fg_quo_r (lN a) (lN rest) n)) = _
    have hq1 : a / 2 ^ n / 2 = a / 2 ^ (n + 1) := by rw [Nat.div_div_eq_div_mul, ← Nat.pow_succ]
    have hans : ans < 2 ^ 60 := by
      have : ans * 1 ≤ ans * b := Nat.mul_le_mul_left _ hb0
      have h3 : a / 2 ^ (n + 1) ≤ a := Nat.div_le_self _ _
      omega
    have hr : fg_quo_r (lN a) (lN rest) n = lN (2 * rest + a / 2 ^ n % 2) := by
      unfold fg_quo_r
      rw [show (1 : Int32) = nI 1 from rfl, fc_lN_shl rest (by omega), fc_lN_ushr (by omega) (by omega), fc_lN_and1 (Nat.lt_of_le_of_lt (Nat.div_le_self _ _) (by omega)), fc_lN_or_add (by omega) (by omega)]
      congr 1; omega
    rw [hr]
    have hd : a / 2 ^ n = ans * 2 * b + (2 * rest + a / 2 ^ n % 2) := by
      have := Nat.div_add_mod (a / 2 ^ n) 2
      rw [hq1, h1] at this
      rw [Nat.mul_right_comm]; omega
    have hrb : 2 * rest + a / 2 ^ n % 2 < 2 * b := by omega
    generalize 2 * rest + a / 2 ^ n % 2 = r at hd hrb ⊢
    rw [fg_diff_eq, fg_quo_f_bit (by omega) (by omega), fg_choose_bit, show (1 : Int32) = nI 1 from rfl, fc_lN_shl ans (by omega)]
    by_cases h : b ≤ r
    · have e1 : lN (ans * 2 ^ 1) ||| fc_bit true = lN (ans * 2 + 1) := by
        rw [show fc_bit true = lN 1 from rfl, fc_lN_or_add (by decide) (by omega)]
      rw [decide_eq_true h, if_pos rfl, lN_sub h, e1]
      refine ih (by omega) (ans * 2 + 1) (r - b) ?_ (by omega)
      rw [Nat.add_mul, Nat.one_mul]; omega
    · have e1 : lN (ans * 2 ^ 1) ||| fc_bit false = lN (ans * 2) := by
        rw [show fc_bit false = lN 0 from rfl, fc_lN_or_add (by decide) (by omega)]; rfl
      rw [decide_eq_false h, if_neg (by decide), e1]
      exact ih (by omega) (ans * 2) r hd (by omega)
theorem fg_quo_lN {a b n : Nat} (ha : a < 2 ^ n) (hn : n ≤ 60) (hb0 : 0 < b) (hb : b < 2 ^ 60) : fg_quo (lN a) (lN b) n = lN (2 * (a / b) + (if a % b = 0 then 0 else 1)) := by
  have ha60 : a < 2 ^ 60 := Nat.lt_of_lt_of_le ha (Nat.pow_le_pow_right (by decide) hn)
  have h := fg_quo_it_u ha60 hb0 hb n hn 0 0 (by rw [Nat.div_eq_of_lt ha]; omega) hb0
  unfold fg_quo
  rw [show (0 : Int64) = lN 0 from rfl, h]
  have h1 : a / b ≤ a := Nat.div_le_self _ _
  have h2 : a % b < b := Nat.mod_lt _ hb0
  show fc_shl (lN (a / b)) 1 ||| fg_any (lN (a % b)) = _
  rw [show (1 : Int32) = nI 1 from rfl, fc_lN_shl _ (by omega), fg_any_lN (by omega), fc_lN_or_add (by split <;> decide) (by split <;> omega)]
  congr 1
  omega
theorem fc_sq0 (s : Nat) : s * 2 * (s * 2) = 4 * (s * s) := by
  rw [Nat.mul_mul_mul_comm, Nat.mul_comm]
theorem fc_sq1 (s : Nat) : (s * 2 + 1) * (s * 2 + 1) = 4 * (s * s) + 4 * s + 1 := by
  rw [Nat.add_mul, Nat.mul_add, fc_sq0]
  omega
theorem fc_lN_and3 {a : Nat} (ha : a < 2 ^ 64) : lN a &&& 3 = lN (a % 4) := by
  apply fc_u_inj
  rw [fc_u_and, fc_u_lNs ha, fc_u_lNs (by omega), show fc_u 3 = 2 ^ 2 - 1 from rfl, Nat.and_two_pow_sub_one_eq_mod]
theorem fg_root_it_u {a : Nat} (ha : a < 2 ^ 60) : ∀ n, n ≤ 30 → ∀ ans rest : Nat, a / 4 ^ n = ans * ans + rest → rest ≤ 2 * ans → ∃ s : Nat, s * s ≤ a ∧ a < (s + 1) * (s + 1) ∧ fg_root_it (lN a) n (lN ans) (lN rest) = (lN s, lN (a - s * s)) := by
  intro n
  induction n with
  | zero =>
    intro _ ans rest h1 h2
    rw [Nat.pow_zero, Nat.div_one] at h1
    refine ⟨ans, by omega, ?_, ?_⟩
    · rw [Nat.add_mul, Nat.mul_add]; omega
    · rw [show a - ans * ans = rest by omega]; rfl
  | succ n ih =>
    intro hn ans rest h1 h2
    have hq1 : a / 4 ^ n / 4 = a / 4 ^ (n + 1) := by rw [Nat.div_div_eq_div_mul, ← Nat.pow_succ]
    have hans : ans < 2 ^ 30 := by
      refine Classical.byContradiction fun h => ?_
      have h3 : 2 ^ 30 * 2 ^ 30 ≤ ans * ans := Nat.mul_le_mul (by omega) (by omega)
      have h4 : a / 4 ^ (n + 1) ≤ a := Nat.div_le_self _ _
      have h5 : (2 : Nat) ^ 30 * 2 ^ 30 = 2 ^ 60 := by decide
      omega
    have e4 : (4 : Nat) ^ n = 2 ^ (2 * n) := by rw [show (4 : Nat) = 2 ^ 2 from rfl, ← Nat.pow_mul]
    have hr : fg_root_r (lN a) (lN rest) n = lN (4 * rest + a / 4 ^ n % 4) := by
      unfold fg_root_r
      rw [show (2 : Int32) = nI 2 from rfl, fc_lN_shl rest (by omega), pk_mul, fc_lN_ushr (by omega) (by omega), fc_lN_and3 (Nat.lt_of_le_of_lt (Nat.div_le_self _ _) (by omega)), fc_lN_or_add (by omega) (by omega), ← e4]
      congr 1; omega
    have hd : a / 4 ^ n = 4 * (ans * ans) + (4 * rest + a / 4 ^ n % 4) := by
      have := Nat.div_add_mod (a / 4 ^ n) 4
      rw [hq1, h1] at this
      omega
    show ∃ s : Nat, s * s ≤ a ∧ a < (s + 1) * (s + 1) ∧ fg_root_it (lN a) n (fc_shl (lN ans) 1 ||| fg_quo_f (fg_root_l (lN ans) (fg_root_r (lN a) (lN rest) n))) (fg_choose (fg_quo_f (fg_root_l (lN ans) (fg_root_r (lN a) (lN rest) n))) (fg_root_l (lN ans) (fg_root_r (lN a) (lN rest) n)) (fg_root_r (lN a) (lN rest) n)) = (lN s, lN (a - s * s))
    have hl : ∀ r : Nat, fg_root_l (lN ans) (lN r) = lN r - lN (4 * ans + 1) := by
      intro r
      unfold fg_root_l
      rw [show (2 : Int32) = nI 2 from rfl, fc_lN_shl ans (by omega), show (1 : Int64) = lN 1 from rfl, fc_lN_or_add (by decide) (by omega), fg_diff_eq]
      congr 2; omega
    rw [hr]
    have hrb : 4 * rest + a / 4 ^ n % 4 ≤ 8 * ans + 3 := by omega
    generalize 4 * rest + a / 4 ^ n % 4 = r at hd hrb ⊢
    rw [hl, fg_quo_f_bit (by omega) (by omega), fg_choose_bit, show (1 : Int32) = nI 1 from rfl, fc_lN_shl ans (by omega)]
    by_cases h : 4 * ans + 1 ≤ r
    · have e1 : lN (ans * 2 ^ 1) ||| fc_bit true = lN (ans * 2 + 1) := by
        rw [show fc_bit true = lN 1 from rfl, fc_lN_or_add (by decide) (by omega)]
      rw [decide_eq_true h, if_pos rfl, lN_sub h, e1]
      refine ih (by omega) (ans * 2 + 1) (r - (4 * ans + 1)) ?_ (by omega)
      rw [fc_sq1]; omega
    · have e1 : lN (ans * 2 ^ 1) ||| fc_bit false = lN (ans * 2) := by
        rw [show fc_bit false = lN 0 from rfl, fc_lN_or_add (by decide) (by omega)]; rfl
      rw [decide_eq_false h, if_neg (by decide), e1]
      refine ih (by omega) (ans * 2) r ?_ (by omega)
      rw [fc_sq0]; omega
theorem fg_root_lN {a n : Nat} (ha : a < 4 ^ n) (hn : n ≤ 30) : ∃ s : Nat, s * s ≤ a ∧ a < (s + 1) * (s + 1) ∧ fg_root (lN a) n = lN (2 * s + (if s * s = a then 0 else 1)) := by
  have ha60 : a < 2 ^ 60 := by
    have h1 : (4 : Nat) ^ n ≤ 4 ^ 30 := Nat.pow_le_pow_right (by decide) hn
    have h2 : (4 : Nat) ^ 30 = 2 ^ 60 := by decide
    omega
  obtain ⟨s, h1, h2, h3⟩ := fg_root_it_u ha60 n hn 0 0 (by rw [Nat.div_eq_of_lt ha]) (Nat.le_refl _)
  refine ⟨s, h1, h2, ?_⟩
  unfold fg_root
  rw [show (0 : Int64) = lN 0 from rfl, h3]
  have hs : s < 2 ^ 30 := by
    refine Classical.byContradiction fun h => ?_
    have h3 : 2 ^ 30 * 2 ^ 30 ≤ s * s := Nat.mul_le_mul (by omega) (by omega)
    have h5 : (2 : Nat) ^ 30 * 2 ^ 30 = 2 ^ 60 := by decide
    omega
  show fc_shl (lN s) 1 ||| fg_any (lN (a - s * s)) = _
  rw [show (1 : Int32) = nI 1 from rfl, fc_lN_shl _ (by omega), fg_any_lN (by omega), fc_lN_or_add (by split <;> decide) (by split <;> omega)]
  congr 1
  by_cases h : s * s = a
  · rw [if_pos (by omega), if_pos h]; omega
  · rw [if_neg (by omega), if_neg h]; omega
