/-! PURE: the gates on numbers -/
def fc_u (x : Int64) : Nat := x.toBitVec.toNat
theorem fc_u_lt (x : Int64) : fc_u x < 2 ^ 64 := x.toBitVec.isLt
theorem fc_u_inj {x y : Int64} (h : fc_u x = fc_u y) : x = y := Int64.toBitVec.inj (BitVec.eq_of_toNat_eq h)
theorem fc_u_lN (n : Nat) : fc_u (lN n) = n % 2 ^ 64 := BitVec.toNat_ofNat n 64
theorem fc_u_lNs {n : Nat} (h : n < 2 ^ 64) : fc_u (lN n) = n := by rw [fc_u_lN, Nat.mod_eq_of_lt h]
theorem fc_lN_u (x : Int64) : lN (fc_u x) = x := fc_u_inj (fc_u_lNs (fc_u_lt x))
theorem fc_b_u (x : Int64) (i : Nat) : fc_b x i = (fc_u x).testBit i := rfl
theorem fc_u_ushr (x : Int64) {n : Nat} (hn : n < 64) : fc_u (fc_ushr x (nI n)) = fc_u x / 2 ^ n := by
  unfold fc_u
  rw [fc_ushr_bv x hn, BitVec.toNat_ushiftRight, Nat.shiftRight_eq_div_pow]
theorem fc_u_shl (x : Int64) {n : Nat} (hn : n < 64) : fc_u (fc_shl x (nI n)) = fc_u x * 2 ^ n % 2 ^ 64 := by
  unfold fc_u
  rw [fc_shl_bv x hn, BitVec.toNat_shiftLeft, Nat.shiftLeft_eq]
theorem fc_u_or (x y : Int64) : fc_u (x ||| y) = fc_u x ||| fc_u y := by
  unfold fc_u
  rw [Int64.toBitVec_or, BitVec.toNat_or]
theorem fc_u_and (x y : Int64) : fc_u (x &&& y) = fc_u x &&& fc_u y := by
  unfold fc_u
  rw [Int64.toBitVec_and, BitVec.toNat_and]
theorem fc_lN_shl (a : Nat) {n : Nat} (hn : n < 64) : fc_shl (lN a) (nI n) = lN (a * 2 ^ n) := by
  apply fc_u_inj
  rw [fc_u_shl _ hn, fc_u_lN, fc_u_lN, Nat.mod_mul_mod]
theorem fc_lN_ushr {a : Nat} (ha : a < 2 ^ 64) {n : Nat} (hn : n < 64) : fc_ushr (lN a) (nI n) = lN (a / 2 ^ n) := by
  apply fc_u_inj
  rw [fc_u_ushr _ hn, fc_u_lNs ha, fc_u_lNs (Nat.lt_of_le_of_lt (Nat.div_le_self _ _) ha)]
theorem fc_lN_and1 {a : Nat} (ha : a < 2 ^ 64) : lN a &&& 1 = lN (a % 2) := by
  apply fc_u_inj
  rw [fc_u_and, fc_u_lNs ha, fc_u_lNs (by omega), show fc_u 1 = 1 from rfl, Nat.and_one_is_mod]
theorem fc_lN_or {a b : Nat} (ha : a < 2 ^ 64) (hb : b < 2 ^ 64) : lN a ||| lN b = lN (a ||| b) := by
  apply fc_u_inj
  rw [fc_u_or, fc_u_lNs ha, fc_u_lNs hb, fc_u_lNs (Nat.or_lt_two_pow ha hb)]
/-- an or with what lies below is a sum -/
theorem fc_or_add {a b k : Nat} (hb : b < 2 ^ k) : a * 2 ^ k ||| b = a * 2 ^ k + b := by
  rw [Nat.mul_comm]
  exact (Nat.two_pow_add_eq_or_of_lt hb a).symm
theorem fc_lN_or_add {a b k : Nat} (hb : b < 2 ^ k) (h : a * 2 ^ k + b < 2 ^ 64) : lN (a * 2 ^ k) ||| lN b = lN (a * 2 ^ k + b) := by
  rw [fc_lN_or (by omega) (by omega), fc_or_add hb]
theorem fg_ones_u {n : Nat} (hn : n < 64) : fc_u (fg_ones (nI n)) = 2 ^ n - 1 := by
  apply Nat.eq_of_testBit_eq
  intro i
  rw [Nat.testBit_two_pow_sub_one, ← fc_b_u]
  unfold fg_ones
  rcases Nat.lt_or_ge i 64 with hi | hi
  · rw [fc_b_xor, fc_b_m1 i hi, fc_b_shl _ hn hi]
    rcases Nat.lt_or_ge i n with h | h
    · rw [decide_eq_true h, decide_eq_false (Nat.not_le.mpr h)]; rfl
    · rw [decide_eq_false (Nat.not_lt.mpr h), decide_eq_true h, fc_b_m1 _ (by omega)]; rfl
  · rw [fc_b_big hi, decide_eq_false (by omega)]
theorem fg_ones_eq {n : Nat} (hn : n < 64) : fg_ones (nI n) = lN (2 ^ n - 1) := by
  apply fc_u_inj
  have : 2 ^ n < 2 ^ 64 := Nat.pow_lt_pow_right (by decide) hn
  rw [fg_ones_u hn, fc_u_lNs (by omega)]
theorem fc_lN_mask {a n : Nat} (ha : a < 2 ^ 64) (hn : n < 64) : lN a &&& fg_ones (nI n) = lN (a % 2 ^ n) := by
  apply fc_u_inj
  rw [fc_u_and, fg_ones_u hn, fc_u_lNs ha, Nat.and_two_pow_sub_one_eq_mod, fc_u_lNs (Nat.lt_of_le_of_lt (Nat.mod_le _ _) ha)]
theorem fc_lN_eq {a b : Nat} (ha : a < 2 ^ 64) (hb : b < 2 ^ 64) : lN a = lN b ↔ a = b := by
  constructor
  · intro h
    have := congrArg fc_u h
    rwa [fc_u_lNs ha, fc_u_lNs hb] at this
  · intro h; rw [h]
theorem fg_any_lN {a : Nat} (ha : a < 2 ^ 64) : fg_any (lN a) = lN (if a = 0 then 0 else 1) := by
  rw [fg_any_eq]
  by_cases h : a = 0
  · subst h; rfl
  · rw [if_neg h, if_neg (fun e : lN a = 0 => h ((fc_lN_eq ha (b := 0) (by decide)).mp e))]; rfl
/-- a bit as a long -/
def fc_bit (c : Bool) : Int64 := if c then 1 else 0
theorem fc_bit_b (c : Bool) : fc_b (fc_bit c) 0 = c := by cases c <;> decide
theorem fg_choose_bit (c : Bool) (x y : Int64) : fg_choose (fc_bit c) x y = if c = true then x else y := by rw [fg_choose_eq, fc_bit_b]
theorem fg_negif_bit (c : Bool) (w : Int64) : fg_negif (fc_bit c) w = if c = true then -w else w := by
  cases c
  · exact fg_negif0 w
  · exact fg_negif1 w
theorem fg_any_bit (w : Int64) : fg_any w = fc_bit (decide (w ≠ 0)) := by
  rw [fg_any_eq]
  by_cases h : w = 0
  · subst h; rfl
  · rw [if_neg h, decide_eq_true h]; rfl
theorem fg_neg_bit (w : Int64) : fg_neg w = fc_bit (decide (w < 0)) := by
  rw [fg_neg_eq]
  by_cases h : w < 0
  · rw [if_pos h, decide_eq_true h]; rfl
  · rw [if_neg h, decide_eq_false h]; rfl
theorem fg_below_bit (a b : Int64) : fg_below a b = fc_bit (decide (a - b < 0)) := by
  unfold fg_below
  rw [fg_diff_eq, fg_neg_bit]
theorem fc_b_shift (p : Int64) {k : Nat} (hk : k < 64) : fc_b (fc_ushr p (nI k)) 0 = (fc_u p).testBit k := by
  rw [fc_b_ushr p hk]; rfl
theorem fc_mod_succ (x k : Nat) : x % 2 ^ (k + 1) = x % 2 ^ k + 2 ^ k * (x.testBit k).toNat := by
  rw [Nat.pow_succ, Nat.mod_mul, Nat.toNat_testBit]
/-- shifting left -/
theorem fg_sl_bv (w p : Int64) : ∀ k, k ≤ 6 → (fg_sl_it w p k).toBitVec = w.toBitVec <<< (fc_u p % 2 ^ k) := by
  intro k
  induction k with
  | zero =>
    intro _
    rw [Nat.pow_zero, Nat.mod_one]
    show w.toBitVec = w.toBitVec <<< 0
    simp
  | succ k ih =>
    intro hk
    have hk6 : k < 6 := by omega
    show (fg_choose (fc_ushr p (nI k)) (fc_shl (fg_sl_it w p k) (fc_ishl 1 (nI k))) (fg_sl_it w p k)).toBitVec = _
    rw [fg_choose_eq, fc_b_shift p (by omega), fc_mod_succ]
    cases h : (fc_u p).testBit k with
    | false =>
      rw [if_neg (by decide), ih (by omega)]
      simp
    | true =>
      rw [if_pos rfl, fc_pw k hk6, fc_shl_bv _ (fc_pw64 hk6), ih (by omega), ← BitVec.shiftLeft_add]
      simp
theorem fg_sl_lN (a : Nat) {p : Nat} (hp : p < 64) : fg_sl (lN a) (lN p) = lN (a * 2 ^ p) := by
  apply Int64.toBitVec.inj
  show (fg_sl_it (lN a) (lN p) 6).toBitVec = _
  rw [fg_sl_bv _ _ 6 (Nat.le_refl _), fc_u_lNs (by omega), show (2 : Nat) ^ 6 = 64 from rfl, Nat.mod_eq_of_lt hp]
  apply BitVec.eq_of_toNat_eq
  rw [BitVec.toNat_shiftLeft, Nat.shiftLeft_eq]
  show (fc_u (lN a)) * 2 ^ p % 2 ^ 64 = fc_u (lN (a * 2 ^ p))
  rw [fc_u_lN, fc_u_lN, Nat.mod_mul_mod]
/-- shifting right, with a mark of what fell off -/
def fc_sr (u n : Nat) : Nat := u / 2 ^ n ||| (if u % 2 ^ n = 0 then 0 else 1)
theorem fc_or1_div (x : Nat) {b : Nat} (hb : 1 ≤ b) : (x ||| 1) / 2 ^ b = x / 2 ^ b := by
  apply Nat.eq_of_testBit_eq
  intro i
  rw [Nat.testBit_div_two_pow, Nat.testBit_div_two_pow, Nat.testBit_or, show (1 : Nat) = 2 ^ 0 from rfl, Nat.testBit_two_pow, decide_eq_false (by omega)]
  simp
theorem fc_or1_mod (x : Nat) {b : Nat} (hb : 1 ≤ b) : (x ||| 1) % 2 ^ b ≠ 0 := by
  intro h
  have h1 : ((x ||| 1) % 2 ^ b).testBit 0 = true := by
    rw [Nat.testBit_mod_two_pow, Nat.testBit_or, decide_eq_true (by omega)]
    simp
  rw [h] at h1
  simp at h1
theorem fc_sr_sr (u a : Nat) {b : Nat} (hb : 1 ≤ b) : fc_sr (fc_sr u a) b = fc_sr u (a + b) := by
  have hd : u / 2 ^ (a + b) = u / 2 ^ a / 2 ^ b := by rw [Nat.pow_add, Nat.div_div_eq_div_mul]
  have hm : u % 2 ^ (a + b) = u % 2 ^ a + 2 ^ a * (u / 2 ^ a % 2 ^ b) := by rw [Nat.pow_add, Nat.mod_mul]
  have hp : 0 < 2 ^ a := Nat.pow_pos (by decide)
  unfold fc_sr
  by_cases h : u % 2 ^ a = 0
  · rw [if_pos h, Nat.or_zero, hd, hm, h, Nat.zero_add]
    have : (2 ^ a * (u / 2 ^ a % 2 ^ b) = 0) ↔ (u / 2 ^ a % 2 ^ b = 0) := by
      rw [Nat.mul_eq_zero]
      constructor
      · rintro (h1 | h1)
        · omega
        · exact h1
      · exact Or.inr
    simp only [this]
  · rw [if_neg h, fc_or1_div _ hb, if_neg (fc_or1_mod _ hb), hd, hm, if_neg (by omega)]
theorem fg_sr_step (mv : Int64) {n : Nat} (hn : n < 64) : fc_u (fc_ushr mv (nI n) ||| fg_any (mv &&& fg_ones (nI n))) = fc_sr (fc_u mv) n := by
  have e : mv &&& fg_ones (nI n) = lN (fc_u mv % 2 ^ n) := by
    have := fc_lN_mask (fc_u_lt mv) hn
    rwa [fc_lN_u] at this
  have hl : fc_u mv % 2 ^ n < 2 ^ 64 := Nat.lt_of_le_of_lt (Nat.mod_le _ _) (fc_u_lt mv)
  rw [fc_u_or, fc_u_ushr _ hn, e, fg_any_lN hl]
  unfold fc_sr
  by_cases h : fc_u mv % 2 ^ n = 0
  · rw [if_pos h]; rfl
  · rw [if_neg h]; rfl
theorem fg_sr_u (w p : Int64) : ∀ k, k ≤ 6 → fc_u (fg_sr_it w p k) = fc_sr (fc_u w) (fc_u p % 2 ^ k) := by
  intro k
  induction k with
  | zero =>
    intro _
    rw [Nat.pow_zero, Nat.mod_one]
    show fc_u w = _
    unfold fc_sr
    simp [Nat.mod_one]
  | succ k ih =>
    intro hk
    have hk6 : k < 6 := by omega
    show fc_u (fg_choose (fc_ushr p (nI k)) (fc_ushr (fg_sr_it w p k) (fc_ishl 1 (nI k)) ||| fg_any (fg_sr_it w p k &&& fg_ones (fc_ishl 1 (nI k)))) (fg_sr_it w p k)) = _
    rw [fg_choose_eq, fc_b_shift p (by omega), fc_mod_succ]
    cases h : (fc_u p).testBit k with
    | false =>
      rw [if_neg (by decide), ih (by omega)]
      simp
    | true =>
      rw [if_pos rfl, fc_pw k hk6, fg_sr_step _ (fc_pw64 hk6), ih (by omega), fc_sr_sr _ _ (Nat.pow_pos (by decide))]
      simp
theorem fc_sr_le (u n : Nat) : fc_sr u n ≤ u := by
  unfold fc_sr
  by_cases h : u % 2 ^ n = 0
  · rw [if_pos h, Nat.or_zero]; exact Nat.div_le_self _ _
  · rw [if_neg h]
    rcases Nat.eq_zero_or_pos n with hn | hn
    · subst hn; simp [Nat.mod_one] at h
    · have h1 : u / 2 ^ n ||| 1 ≤ u / 2 ^ n + 1 := by
        have h0 := fc_or1_div (u / 2 ^ n) (b := 1) (Nat.le_refl 1)
        rw [Nat.pow_one] at h0
        omega
      have h2 : u % 2 ^ n ≤ u := Nat.mod_le _ _
      have h3 := Nat.div_add_mod u (2 ^ n)
      have h4 : u / 2 ^ n ≤ 2 ^ n * (u / 2 ^ n) := Nat.le_mul_of_pos_left _ (Nat.pow_pos (by decide))
      omega
theorem fg_sr_lN {a p : Nat} (ha : a < 2 ^ 64) (hp : p < 64) : fg_sr (lN a) (lN p) = lN (fc_sr a p) := by
  apply fc_u_inj
  show fc_u (fg_sr_it (lN a) (lN p) 6) = _
  rw [fg_sr_u _ _ 6 (Nat.le_refl _), fc_u_lNs (show p < 2 ^ 64 by omega), show (2 : Nat) ^ 6 = 64 from rfl, Nat.mod_eq_of_lt hp, fc_u_lNs ha, fc_u_lNs (Nat.lt_of_le_of_lt (fc_sr_le a p) ha)]
