section
/-! PURE: the machine's shifts on longs, by their bits -/
def fc_shl (x : Int64) (k : Int32) : Int64 := x <<< (k.toInt64 &&& 63)
def fc_ushr (x : Int64) (k : Int32) : Int64 := (x.toUInt64 >>> (k.toInt64.toUInt64 &&& Int64.toUInt64 63)).toInt64
def fc_shr (x : Int64) (k : Int32) : Int64 := x >>> (k.toInt64 &&& 63)
def fc_ishl (x k : Int32) : Int32 := x <<< (k &&& 31)
def fc_iushr (x k : Int32) : Int32 := (x.toUInt32 >>> (k.toUInt32 &&& Int32.toUInt32 31)).toInt32
theorem fc_k63 : ∀ n, n < 64 → (((nI n).toInt64 &&& 63).toBitVec.smod 64).toNat = n := by decide +kernel
theorem fc_k63u : ∀ n, n < 64 → (((nI n).toInt64.toUInt64 &&& Int64.toUInt64 63).toBitVec % 64).toNat = n := by decide +kernel
theorem fc_shl_bv (x : Int64) {n : Nat} (hn : n < 64) : (fc_shl x (nI n)).toBitVec = x.toBitVec <<< n := by
  unfold fc_shl
  rw [Int64.toBitVec_shiftLeft]
  show x.toBitVec <<< (((nI n).toInt64 &&& 63).toBitVec.smod 64).toNat = _
  rw [fc_k63 n hn]
theorem fc_ushr_bv (x : Int64) {n : Nat} (hn : n < 64) : (fc_ushr x (nI n)).toBitVec = x.toBitVec >>> n := by
  show x.toBitVec >>> (((nI n).toInt64.toUInt64 &&& Int64.toUInt64 63).toBitVec % 64) = _
  rw [BitVec.ushiftRight_eq', fc_k63u n hn]
theorem fc_shr_bv (x : Int64) {n : Nat} (hn : n < 64) : (fc_shr x (nI n)).toBitVec = x.toBitVec.sshiftRight n := by
  unfold fc_shr
  rw [Int64.toBitVec_shiftRight]
  show x.toBitVec.sshiftRight (((nI n).toInt64 &&& 63).toBitVec.smod 64).toNat = _
  rw [fc_k63 n hn]
theorem fc_pw : ∀ k, k < 6 → fc_ishl 1 (nI k) = nI (2 ^ k) := by decide +kernel
theorem fc_pw64 {k : Nat} (h : k < 6) : 2 ^ k < 64 := Nat.pow_lt_pow_right (a := 2) (by decide) h
/-- bit i of a long -/
def fc_b (x : Int64) (i : Nat) : Bool := x.toBitVec.getLsbD i
theorem fc_ext {x y : Int64} (h : ∀ i, i < 64 → fc_b x i = fc_b y i) : x = y := Int64.toBitVec.inj (BitVec.eq_of_getLsbD_eq (fun i hi => h i hi))
theorem fc_b_or (x y : Int64) (i : Nat) : fc_b (x ||| y) i = (fc_b x i || fc_b y i) := by unfold fc_b; rw [Int64.toBitVec_or, BitVec.getLsbD_or]
theorem fc_b_and (x y : Int64) (i : Nat) : fc_b (x &&& y) i = (fc_b x i && fc_b y i) := by unfold fc_b; rw [Int64.toBitVec_and, BitVec.getLsbD_and]
theorem fc_b_xor (x y : Int64) (i : Nat) : fc_b (x ^^^ y) i = (fc_b x i ^^ fc_b y i) := by unfold fc_b; rw [Int64.toBitVec_xor, BitVec.getLsbD_xor]
theorem fc_b_big {x : Int64} {i : Nat} (h : 64 ≤ i) : fc_b x i = false := BitVec.getLsbD_of_ge _ _ h
theorem fc_b_m1 : ∀ i, i < 64 → fc_b (-1) i = true := by decide +kernel
theorem fc_b_0 (i : Nat) : fc_b 0 i = false := BitVec.getLsbD_zero
theorem fc_b_1 : ∀ i, i < 64 → fc_b 1 i = decide (i = 0) := by decide +kernel
theorem fc_b_shl (x : Int64) {n : Nat} (hn : n < 64) {i : Nat} (hi : i < 64) : fc_b (fc_shl x (nI n)) i = (decide (n ≤ i) && fc_b x (i - n)) := by
  unfold fc_b
  rw [fc_shl_bv x hn, BitVec.getLsbD_shiftLeft]
  rcases Nat.lt_or_ge i n with h | h
  · simp [h, Nat.not_le.mpr h]
  · simp [hi, h, Nat.not_lt.mpr h]
theorem fc_b_ushr (x : Int64) {n : Nat} (hn : n < 64) (i : Nat) : fc_b (fc_ushr x (nI n)) i = fc_b x (n + i) := by
  unfold fc_b
  rw [fc_ushr_bv x hn, BitVec.getLsbD_ushiftRight]
theorem fc_b_shr63 (x : Int64) {i : Nat} (hi : i < 64) : fc_b (fc_shr x 63) i = fc_b x 63 := by
  unfold fc_b
  rw [show (63 : Int32) = nI 63 from rfl, fc_shr_bv x (by omega), BitVec.getLsbD_sshiftRight, BitVec.msb_eq_getLsbD_last]
  rcases Nat.eq_zero_or_pos i with h | h
  · subst h; simp
  · rw [if_neg (by omega)]; simp [hi]
theorem fc_xm1 (x : Int64) : x ^^^ (-1) = ~~~x := by
  apply fc_ext; intro i hi
  rw [fc_b_xor, fc_b_m1 i hi]
  show _ = (~~~x).toBitVec.getLsbD i
  rw [Int64.toBitVec_not, BitVec.getLsbD_not]
  simp [hi, fc_b]
/-! PURE: the gates, as the class has them -/
def fg_ones (k : Int32) : Int64 := fc_shl (-1) k ^^^ (-1)
def fg_fan (b : Int64) : Int64 := fc_shr (fc_shl b 63) 63
def fg_choose (b x y : Int64) : Int64 := (x &&& fg_fan b) ||| (y &&& (fg_fan b ^^^ (-1)))
def fg_any_it (w : Int64) : Nat → Int64
  | 0 => w
  | k + 1 => fg_any_it w k ||| fc_ushr (fg_any_it w k) (fc_ishl 1 (nI k))
def fg_any (w : Int64) : Int64 := fg_any_it w 6 &&& 1
def fg_neg (w : Int64) : Int64 := fc_ushr w 63
def fg_add_it (a b c : Int64) : Nat → Int64 × Int64
  | 0 => ((a &&& b) ||| ((a ^^^ b) &&& c), a ^^^ b)
  | k + 1 => ((fg_add_it a b c k).1 ||| ((fg_add_it a b c k).2 &&& fc_shl (fg_add_it a b c k).1 (fc_ishl 1 (nI k))), (fg_add_it a b c k).2 &&& fc_shl (fg_add_it a b c k).2 (fc_ishl 1 (nI k)))
def fg_add (a b c : Int64) : Int64 := ((a ^^^ b) ^^^ fc_shl (fg_add_it a b c 6).1 1) ^^^ c
def fg_sum (a b : Int64) : Int64 := fg_add a b 0
def fg_diff (a b : Int64) : Int64 := fg_add a (b ^^^ (-1)) 1
def fg_negif (bit w : Int64) : Int64 := fg_add (w ^^^ fg_fan bit) 0 bit
def fg_below (a b : Int64) : Int64 := fg_neg (fg_diff a b)
def fg_sl_it (w p : Int64) : Nat → Int64
  | 0 => w
  | k + 1 => fg_choose (fc_ushr p (nI k)) (fc_shl (fg_sl_it w p k) (fc_ishl 1 (nI k))) (fg_sl_it w p k)
def fg_sl (w p : Int64) : Int64 := fg_sl_it w p 6
def fg_sr_it (w p : Int64) : Nat → Int64
  | 0 => w
  | k + 1 => fg_choose (fc_ushr p (nI k)) (fc_ushr (fg_sr_it w p k) (fc_ishl 1 (nI k)) ||| fg_any (fg_sr_it w p k &&& fg_ones (fc_ishl 1 (nI k)))) (fg_sr_it w p k)
def fg_sr (w p : Int64) : Int64 := fg_sr_it w p 6
def fg_top_it : Nat → Int64 → Int64 → Int64
  | 0, num, _ => num
  | n + 1, num, rest => fg_top_it n (num ||| fc_shl (fg_any (fc_ushr rest (fc_ishl 1 (nI n)))) (nI n)) (fg_choose (fg_any (fc_ushr rest (fc_ishl 1 (nI n)))) (fc_ushr rest (fc_ishl 1 (nI n))) rest)
def fg_top (w : Int64) : Int64 := fg_top_it 6 0 w
def fg_prod_it (a b : Int64) : Nat → Int64
  | 0 => 0
  | k + 1 => fg_sum (fg_prod_it a b k) (fc_shl a (nI k) &&& fg_fan (fc_ushr b (nI k)))
def fg_quo_r (a rest : Int64) (n : Nat) : Int64 := fc_shl rest 1 ||| (fc_ushr a (nI n) &&& 1)
def fg_quo_f (less : Int64) : Int64 := fg_neg less ^^^ 1
def fg_quo_it (a b : Int64) : Nat → Int64 → Int64 → Int64 × Int64
  | 0, ans, rest => (ans, rest)
  | n + 1, ans, rest => fg_quo_it a b n (fc_shl ans 1 ||| fg_quo_f (fg_diff (fg_quo_r a rest n) b)) (fg_choose (fg_quo_f (fg_diff (fg_quo_r a rest n) b)) (fg_diff (fg_quo_r a rest n) b) (fg_quo_r a rest n))
def fg_quo (a b : Int64) (n : Nat) : Int64 := fc_shl (fg_quo_it a b n 0 0).1 1 ||| fg_any (fg_quo_it a b n 0 0).2
def fg_root_r (a rest : Int64) (n : Nat) : Int64 := fc_shl rest 2 ||| (fc_ushr a (2 * nI n) &&& 3)
def fg_root_l (ans r : Int64) : Int64 := fg_diff r (fc_shl ans 2 ||| 1)
def fg_root_it (a : Int64) : Nat → Int64 → Int64 → Int64 × Int64
  | 0, ans, rest => (ans, rest)
  | n + 1, ans, rest => fg_root_it a n (fc_shl ans 1 ||| fg_quo_f (fg_root_l ans (fg_root_r a rest n))) (fg_choose (fg_quo_f (fg_root_l ans (fg_root_r a rest n))) (fg_root_l ans (fg_root_r a rest n)) (fg_root_r a rest n))
def fg_root (a : Int64) (n : Nat) : Int64 := fc_shl (fg_root_it a n 0 0).1 1 ||| fg_any (fg_root_it a n 0 0).2
/-! PURE: what the gates answer -/
theorem fg_fan_b (b : Int64) {i : Nat} (hi : i < 64) : fc_b (fg_fan b) i = fc_b b 0 := by
  unfold fg_fan
  rw [fc_b_shr63 _ hi, show (63 : Int32) = nI 63 from rfl, fc_b_shl b (by omega) (by omega)]
  simp
theorem fg_choose_eq (b x y : Int64) : fg_choose b x y = if fc_b b 0 = true then x else y := by
  apply fc_ext; intro i hi
  unfold fg_choose
  rw [fc_b_or, fc_b_and, fc_b_and, fc_b_xor, fc_b_m1 i hi, fg_fan_b b hi]
  cases fc_b b 0 <;> simp
theorem fg_any_b (w : Int64) : ∀ k, k ≤ 6 → ∀ i, (fc_b (fg_any_it w k) i = true ↔ ∃ j, i ≤ j ∧ j < i + 2 ^ k ∧ fc_b w j = true) := by
  intro k
  induction k with
  | zero =>
    intro _ i
    constructor
    · intro h; exact ⟨i, Nat.le_refl _, by simp, h⟩
    · rintro ⟨j, h1, h2, h3⟩
      have : j = i := by simp at h2; omega
      subst this; exact h3
  | succ k ih =>
    intro hk i
    have hk6 : k < 6 := by omega
    unfold fg_any_it
    rw [fc_b_or, fc_pw k hk6, fc_b_ushr _ (fc_pw64 hk6), Bool.or_eq_true, ih (by omega) i, ih (by omega) (2 ^ k + i)]
    have e : 2 ^ (k + 1) = 2 ^ k + 2 ^ k := by rw [Nat.pow_succ]; omega
    constructor
    · rintro (⟨j, h1, h2, h3⟩ | ⟨j, h1, h2, h3⟩)
      · exact ⟨j, h1, by omega, h3⟩
      · exact ⟨j, by omega, by omega, h3⟩
    · rintro ⟨j, h1, h2, h3⟩
      rcases Nat.lt_or_ge j (i + 2 ^ k) with h | h
      · exact Or.inl ⟨j, h1, h, h3⟩
      · exact Or.inr ⟨j, by omega, by omega, h3⟩
theorem fg_any_eq (w : Int64) : fg_any w = if w = 0 then 0 else 1 := by
  apply fc_ext; intro i hi
  unfold fg_any
  rw [fc_b_and, fc_b_1 i hi]
  by_cases hw : w = 0
  · subst hw
    rw [if_pos rfl, fc_b_0]
    have : fc_b (fg_any_it 0 6) i = false := by
      cases h : fc_b (fg_any_it 0 6) i with
      | false => rfl
      | true =>
        obtain ⟨j, -, -, h3⟩ := (fg_any_b 0 6 (Nat.le_refl _) i).mp h
        rw [fc_b_0] at h3; cases h3
    rw [this]; rfl
  · rw [if_neg hw, fc_b_1 i hi]
    rcases Nat.eq_zero_or_pos i with h | h
    · subst h
      have : fc_b (fg_any_it w 6) 0 = true := by
        refine (fg_any_b w 6 (Nat.le_refl _) 0).mpr ?_
        refine Classical.byContradiction fun hn => hw ?_
        apply fc_ext; intro j hj
        rw [fc_b_0]
        cases h3 : fc_b w j with
        | false => rfl
        | true => exact absurd ⟨j, Nat.zero_le _, by simpa using hj, h3⟩ hn
      rw [this]; rfl
    · have : decide (i = 0) = false := decide_eq_false (by omega)
      rw [this]; simp
/-- Kogge and Stone: behind k stages the carries are those of windows of 2^k wires -/
theorem fg_add_inv (a b : Int64) (c : Bool) : ∀ k, k ≤ 6 → ∀ i, i < 64 →
    (i + 1 ≤ 2 ^ k → BitVec.carry (i + 1) a.toBitVec b.toBitVec c = fc_b (fg_add_it a b (if c then 1 else 0) k).1 i) ∧
    (2 ^ k < i + 1 → BitVec.carry (i + 1) a.toBitVec b.toBitVec c = (fc_b (fg_add_it a b (if c then 1 else 0) k).1 i || (fc_b (fg_add_it a b (if c then 1 else 0) k).2 i && BitVec.carry (i + 1 - 2 ^ k) a.toBitVec b.toBitVec c))) := by
  intro k
  induction k with
  | zero =>
    intro _ i hi
    have e0 : fc_b (fg_add_it a b (if c then 1 else 0) 0).1 i = ((fc_b a i && fc_b b i) || ((fc_b a i ^^ fc_b b i) && fc_b (if c then (1 : Int64) else 0) i)) := by
      show fc_b ((a &&& b) ||| ((a ^^^ b) &&& (if c then (1 : Int64) else 0))) i = _
      rw [fc_b_or, fc_b_and, fc_b_and, fc_b_xor]
    have e1 : fc_b (fg_add_it a b (if c then 1 else 0) 0).2 i = (fc_b a i ^^ fc_b b i) := by
      show fc_b (a ^^^ b) i = _
      rw [fc_b_xor]
    have ec : fc_b (if c then (1 : Int64) else 0) i = (c && decide (i = 0)) := by
      cases c
      · show fc_b 0 i = _; rw [fc_b_0]; rfl
      · show fc_b 1 i = _; rw [fc_b_1 i hi]; rfl
    rw [e0, e1, ec, BitVec.carry_succ]
    constructor
    · intro h
      have : i = 0 := by simp at h; omega
      subst this
      rw [BitVec.carry_zero]
      show Bool.atLeastTwo (fc_b a 0) (fc_b b 0) c = _
      cases fc_b a 0 <;> cases fc_b b 0 <;> cases c <;> rfl
    · intro h
      have hi0 : decide (i = 0) = false := decide_eq_false (by simp at h; omega)
      rw [hi0, show i + 1 - 2 ^ 0 = i by simp]
      show Bool.atLeastTwo (fc_b a i) (fc_b b i) _ = _
      cases fc_b a i <;> cases fc_b b i <;> cases c <;> cases BitVec.carry i a.toBitVec b.toBitVec _ <;> rfl
  | succ k ih =>
    intro hk i hi
    have hk6 : k < 6 := by omega
    have e : 2 ^ (k + 1) = 2 ^ k + 2 ^ k := by rw [Nat.pow_succ]; omega
    have hp : 0 < 2 ^ k := Nat.pow_pos (by decide)
    have IH := ih (by omega)
    have c1 : fc_b (fg_add_it a b (if c then 1 else 0) (k + 1)).1 i = (fc_b (fg_add_it a b (if c then 1 else 0) k).1 i || (fc_b (fg_add_it a b (if c then 1 else 0) k).2 i && (decide (2 ^ k ≤ i) && fc_b (fg_add_it a b (if c then 1 else 0) k).1 (i - 2 ^ k)))) := by
      show fc_b ((fg_add_it a b (if c then 1 else 0) k).1 ||| ((fg_add_it a b (if c then 1 else 0) k).2 &&& fc_shl (fg_add_it a b (if c then 1 else 0) k).1 (fc_ishl 1 (nI k)))) i = _
      rw [fc_b_or, fc_b_and, fc_pw k hk6, fc_b_shl _ (fc_pw64 hk6) hi]
    have c2 : fc_b (fg_add_it a b (if c then 1 else 0) (k + 1)).2 i = (fc_b (fg_add_it a b (if c then 1 else 0) k).2 i && (decide (2 ^ k ≤ i) && fc_b (fg_add_it a b (if c then 1 else 0) k).2 (i - 2 ^ k))) := by
      show fc_b ((fg_add_it a b (if c then 1 else 0) k).2 &&& fc_shl (fg_add_it a b (if c then 1 else 0) k).2 (fc_ishl 1 (nI k))) i = _
      rw [fc_b_and, fc_pw k hk6, fc_b_shl _ (fc_pw64 hk6) hi]
    rcases Nat.lt_or_ge i (2 ^ k) with h | h
    · have hd : decide (2 ^ k ≤ i) = false := decide_eq_false (by omega)
      refine ⟨fun _ => ?_, fun h2 => absurd h2 (by omega)⟩
      rw [c1, hd, (IH i hi).1 (by omega)]
      simp
    · have hd : decide (2 ^ k ≤ i) = true := decide_eq_true h
      have h0 : BitVec.carry (i + 1) a.toBitVec b.toBitVec c = (fc_b (fg_add_it a b (if c then 1 else 0) k).1 i || (fc_b (fg_add_it a b (if c then 1 else 0) k).2 i && BitVec.carry (i - 2 ^ k + 1) a.toBitVec b.toBitVec c)) := by
        rcases Nat.lt_or_ge (2 ^ k) (i + 1) with h1 | h1
        · rw [(IH i hi).2 h1, show i + 1 - 2 ^ k = i - 2 ^ k + 1 by omega]
        · omega
      constructor
      · intro h2
        rw [h0, (IH (i - 2 ^ k) (by omega)).1 (by omega), c1, hd, Bool.true_and]
      · intro h2
        rw [h0, (IH (i - 2 ^ k) (by omega)).2 (by omega), c1, c2, hd, Bool.true_and, Bool.true_and, show i - 2 ^ k + 1 - 2 ^ k = i + 1 - 2 ^ (k + 1) by omega]
        cases fc_b (fg_add_it a b (if c then 1 else 0) k).1 i <;> cases fc_b (fg_add_it a b (if c then 1 else 0) k).2 i <;> simp
theorem fg_add_eq (a b : Int64) (c : Bool) : fg_add a b (if c then 1 else 0) = a + b + (if c then 1 else 0) := by
  apply fc_ext; intro i hi
  have hR : fc_b (a + b + (if c then 1 else 0)) i = (fc_b a i ^^ (fc_b b i ^^ BitVec.carry i a.toBitVec b.toBitVec c)) := by
    have e : (if c then (1 : Int64) else 0).toBitVec = BitVec.setWidth 64 (BitVec.ofBool c) := by cases c <;> rfl
    unfold fc_b
    rw [Int64.toBitVec_add, Int64.toBitVec_add, e, BitVec.getLsbD_add_add_bool hi]
  have hc : fc_b (if c then (1 : Int64) else 0) i = (c && decide (i = 0)) := by
    cases c
    · show fc_b 0 i = _; rw [fc_b_0]; rfl
    · show fc_b 1 i = _; rw [fc_b_1 i hi]; rfl
  rw [hR]
  unfold fg_add
  rw [fc_b_xor, fc_b_xor, fc_b_xor, show (1 : Int32) = nI 1 from rfl, fc_b_shl _ (by omega) hi, hc]
  rcases Nat.eq_zero_or_pos i with h | h
  · subst h
    rw [BitVec.carry_zero]
    cases fc_b a 0 <;> cases fc_b b 0 <;> cases c <;> rfl
  · have h1 : decide (1 ≤ i) = true := decide_eq_true h
    have h2 : decide (i = 0) = false := decide_eq_false (by omega)
    have h3 := (fg_add_inv a b c 6 (Nat.le_refl _) (i - 1) (by omega)).1 (by show i - 1 + 1 ≤ 64; omega)
    rw [show i - 1 + 1 = i by omega] at h3
    rw [h1, h2, h3]
    cases fc_b a i <;> cases fc_b b i <;> cases c <;> simp
theorem fg_sum_eq (a b : Int64) : fg_sum a b = a + b := by
  have h := fg_add_eq a b false
  unfold fg_sum
  simpa using h
theorem fg_diff_eq (a b : Int64) : fg_diff a b = a - b := by
  have h := fg_add_eq a (b ^^^ (-1)) true
  unfold fg_diff
  rw [show fg_add a (b ^^^ (-1)) 1 = a + (b ^^^ (-1)) + 1 from h, fc_xm1]
  apply Int64.toBitVec.inj
  rw [Int64.toBitVec_add, Int64.toBitVec_add, Int64.toBitVec_not, Int64.toBitVec_sub, BitVec.sub_eq_add_neg, BitVec.neg_eq_not_add, BitVec.add_assoc]
  rfl
theorem fg_negif0 (w : Int64) : fg_negif 0 w = w := by
  have h := fg_add_eq (w ^^^ fg_fan 0) 0 false
  unfold fg_negif
  rw [show fg_add (w ^^^ fg_fan 0) 0 0 = (w ^^^ fg_fan 0) + 0 + 0 from h, show fg_fan 0 = 0 by decide +kernel]
  simp
theorem fg_negif1 (w : Int64) : fg_negif 1 w = -w := by
  have h := fg_add_eq (w ^^^ fg_fan 1) 0 true
  unfold fg_negif
  rw [show fg_add (w ^^^ fg_fan 1) 0 1 = (w ^^^ fg_fan 1) + 0 + 1 from h, show fg_fan 1 = -1 by decide +kernel, fc_xm1]
  apply Int64.toBitVec.inj
  rw [Int64.toBitVec_add, Int64.toBitVec_add, Int64.toBitVec_not, Int64.toBitVec_neg, BitVec.neg_eq_not_add]
  show ~~~w.toBitVec + 0#64 + 1#64 = _
  rw [BitVec.add_zero]
theorem fg_neg_eq (w : Int64) : fg_neg w = if w < 0 then 1 else 0 := by
  have hm : (w < 0) ↔ fc_b w 63 = true := by
    have h1 : w.toBitVec.msb = decide (w.toBitVec.toInt < 0) := BitVec.msb_eq_toInt
    have h2 : w.toBitVec.msb = fc_b w 63 := BitVec.msb_eq_getLsbD_last _
    rw [← h2, h1, decide_eq_true_iff, Int64.lt_iff_toInt_lt]
    exact Iff.rfl
  apply fc_ext; intro i hi
  unfold fg_neg
  rw [show (63 : Int32) = nI 63 from rfl, fc_b_ushr w (by omega)]
  rcases Nat.eq_zero_or_pos i with h | h
  · subst h
    by_cases hw : w < 0
    · rw [if_pos hw, fc_b_1 0 (by omega), hm.mp hw]; rfl
    · rw [if_neg hw, fc_b_0]
      cases h2 : fc_b w (63 + 0) with
      | false => rfl
      | true => exact absurd (hm.mpr h2) hw
  · rw [fc_b_big (by omega)]
    by_cases hw : w < 0
    · rw [if_pos hw, fc_b_1 i hi, decide_eq_false (by omega)]
    · rw [if_neg hw, fc_b_0]
end
section
/-! PURE: the gates on numbers -/
def fc_u (x : Int64) : Nat := x.toBitVec.toNat
theorem fc_u_lt (x : Int64) : fc_u x < 2 ^ 64 := x.toBitVec.isLt
theorem fc_u_inj {x y : Int64} (h : fc_u x = fc_u y) : x = y := Int64.toBitVec.inj (BitVec.eq_of_toNat_eq h)
theorem fc_u_lN (n : Nat) : fc_u (lN n) = n % 2 ^ 64 := BitVec.toNat_ofNat n 64
theorem fc_u_lNs {n : Nat} (h : n < 2 ^ 64) : fc_u (lN n) = n := by rw [fc_u_lN, Nat.mod_eq_of_lt h]
theorem fc_lN_u (x : Int64) : lN (fc_u x) = x := fc_u_inj (fc_u_lNs (fc_u_lt x))
theorem fc_b_u (x : Int64) (i : Nat) : fc_b x i = (fc_u x).testBit i := rfl
theorem fc_u_ushr (x : Int64) {n : Nat} (hn : n < 64) : fc_u (fc_ushr x (nI n)) = fc_u x / 2 ^ n := by
  unfold fc_u
  rw [fc_ushr_bv x hn, BitVec.toNat_ushiftRight, Nat.shiftRight_eq_div_pow]
theorem fc_u_shl (x : Int64) {n : Nat} (hn : n < 64) : fc_u (fc_shl x (nI n)) = fc_u x * 2 ^ n % 2 ^ 64 := by
  unfold fc_u
  rw [fc_shl_bv x hn, BitVec.toNat_shiftLeft, Nat.shiftLeft_eq]
theorem fc_u_or (x y : Int64) : fc_u (x ||| y) = fc_u x ||| fc_u y := by
  unfold fc_u
  rw [Int64.toBitVec_or, BitVec.toNat_or]
theorem fc_u_and (x y : Int64) : fc_u (x &&& y) = fc_u x &&& fc_u y := by
  unfold fc_u
  rw [Int64.toBitVec_and, BitVec.toNat_and]
theorem fc_lN_shl (a : Nat) {n : Nat} (hn : n < 64) : fc_shl (lN a) (nI n) = lN (a * 2 ^ n) := by
  apply fc_u_inj
  rw [fc_u_shl _ hn, fc_u_lN, fc_u_lN, Nat.mod_mul_mod]
theorem fc_lN_ushr {a : Nat} (ha : a < 2 ^ 64) {n : Nat} (hn : n < 64) : fc_ushr (lN a) (nI n) = lN (a / 2 ^ n) := by
  apply fc_u_inj
  rw [fc_u_ushr _ hn, fc_u_lNs ha, fc_u_lNs (Nat.lt_of_le_of_lt (Nat.div_le_self _ _) ha)]
theorem fc_lN_and1 {a : Nat} (ha : a < 2 ^ 64) : lN a &&& 1 = lN (a % 2) := by
  apply fc_u_inj
  rw [fc_u_and, fc_u_lNs ha, fc_u_lNs (by omega), show fc_u 1 = 1 from rfl, Nat.and_one_is_mod]
theorem fc_lN_or {a b : Nat} (ha : a < 2 ^ 64) (hb : b < 2 ^ 64) : lN a ||| lN b = lN (a ||| b) := by
  apply fc_u_inj
  rw [fc_u_or, fc_u_lNs ha, fc_u_lNs hb, fc_u_lNs (Nat.or_lt_two_pow ha hb)]
/-- an or with what lies below is a sum -/
theorem fc_or_add {a b k : Nat} (hb : b < 2 ^ k) : a * 2 ^ k ||| b = a * 2 ^ k + b := by
  rw [Nat.mul_comm]
  exact (Nat.two_pow_add_eq_or_of_lt hb a).symm
theorem fc_lN_or_add {a b k : Nat} (hb : b < 2 ^ k) (h : a * 2 ^ k + b < 2 ^ 64) : lN (a * 2 ^ k) ||| lN b = lN (a * 2 ^ k + b) := by
  rw [fc_lN_or (by omega) (by omega), fc_or_add hb]
theorem fg_ones_u {n : Nat} (hn : n < 64) : fc_u (fg_ones (nI n)) = 2 ^ n - 1 := by
  apply Nat.eq_of_testBit_eq
  intro i
  rw [Nat.testBit_two_pow_sub_one, ← fc_b_u]
  unfold fg_ones
  rcases Nat.lt_or_ge i 64 with hi | hi
  · rw [fc_b_xor, fc_b_m1 i hi, fc_b_shl _ hn hi]
    rcases Nat.lt_or_ge i n with h | h
    · rw [decide_eq_true h, decide_eq_false (Nat.not_le.mpr h)]; rfl
    · rw [decide_eq_false (Nat.not_lt.mpr h), decide_eq_true h, fc_b_m1 _ (by omega)]; rfl
  · rw [fc_b_big hi, decide_eq_false (by omega)]
theorem fg_ones_eq {n : Nat} (hn : n < 64) : fg_ones (nI n) = lN (2 ^ n - 1) := by
  apply fc_u_inj
  have : 2 ^ n < 2 ^ 64 := Nat.pow_lt_pow_right (by decide) hn
  rw [fg_ones_u hn, fc_u_lNs (by omega)]
theorem fc_lN_mask {a n : Nat} (ha : a < 2 ^ 64) (hn : n < 64) : lN a &&& fg_ones (nI n) = lN (a % 2 ^ n) := by
  apply fc_u_inj
  rw [fc_u_and, fg_ones_u hn, fc_u_lNs ha, Nat.and_two_pow_sub_one_eq_mod, fc_u_lNs (Nat.lt_of_le_of_lt (Nat.mod_le _ _) ha)]
theorem fc_lN_eq {a b : Nat} (ha : a < 2 ^ 64) (hb : b < 2 ^ 64) : lN a = lN b ↔ a = b := by
  constructor
  · intro h
    have := congrArg fc_u h
    rwa [fc_u_lNs ha, fc_u_lNs hb] at this
  · intro h; rw [h]
theorem fg_any_lN {a : Nat} (ha : a < 2 ^ 64) : fg_any (lN a) = lN (if a = 0 then 0 else 1) := by
  rw [fg_any_eq]
  by_cases h : a = 0
  · subst h; rfl
  · rw [if_neg h, if_neg (fun e : lN a = 0 => h ((fc_lN_eq ha (b := 0) (by decide)).mp e))]; rfl
/-- a bit as a long -/
def fc_bit (c : Bool) : Int64 := if c then 1 else 0
theorem fc_bit_b (c : Bool) : fc_b (fc_bit c) 0 = c := by cases c <;> decide
theorem fg_choose_bit (c : Bool) (x y : Int64) : fg_choose (fc_bit c) x y = if c = true then x else y := by rw [fg_choose_eq, fc_bit_b]
theorem fg_negif_bit (c : Bool) (w : Int64) : fg_negif (fc_bit c) w = if c = true then -w else w := by
  cases c
  · exact fg_negif0 w
  · exact fg_negif1 w
theorem fg_any_bit (w : Int64) : fg_any w = fc_bit (decide (w ≠ 0)) := by
  rw [fg_any_eq]
  by_cases h : w = 0
  · subst h; rfl
  · rw [if_neg h, decide_eq_true h]; rfl
theorem fg_neg_bit (w : Int64) : fg_neg w = fc_bit (decide (w < 0)) := by
  rw [fg_neg_eq]
  by_cases h : w < 0
  · rw [if_pos h, decide_eq_true h]; rfl
  · rw [if_neg h, decide_eq_false h]; rfl
theorem fg_below_bit (a b : Int64) : fg_below a b = fc_bit (decide (a - b < 0)) := by
  unfold fg_below
  rw [fg_diff_eq, fg_neg_bit]
theorem fc_b_shift (p : Int64) {k : Nat} (hk : k < 64) : fc_b (fc_ushr p (nI k)) 0 = (fc_u p).testBit k := by
  rw [fc_b_ushr p hk]; rfl
theorem fc_mod_succ (x k : Nat) : x % 2 ^ (k + 1) = x % 2 ^ k + 2 ^ k * (x.testBit k).toNat := by
  rw [Nat.pow_succ, Nat.mod_mul, Nat.toNat_testBit]
/-- shifting left -/
theorem fg_sl_bv (w p : Int64) : ∀ k, k ≤ 6 → (fg_sl_it w p k).toBitVec = w.toBitVec <<< (fc_u p % 2 ^ k) := by
  intro k
  induction k with
  | zero =>
    intro _
    rw [Nat.pow_zero, Nat.mod_one]
    show w.toBitVec = w.toBitVec <<< 0
    simp
  | succ k ih =>
    intro hk
    have hk6 : k < 6 := by omega
    show (fg_choose (fc_ushr p (nI k)) (fc_shl (fg_sl_it w p k) (fc_ishl 1 (nI k))) (fg_sl_it w p k)).toBitVec = _
    rw [fg_choose_eq, fc_b_shift p (by omega), fc_mod_succ]
    cases h : (fc_u p).testBit k with
    | false =>
      rw [if_neg (by decide), ih (by omega)]
      simp
    | true =>
      rw [if_pos rfl, fc_pw k hk6, fc_shl_bv _ (fc_pw64 hk6), ih (by omega), ← BitVec.shiftLeft_add]
      simp
theorem fg_sl_lN (a : Nat) {p : Nat} (hp : p < 64) : fg_sl (lN a) (lN p) = lN (a * 2 ^ p) := by
  apply Int64.toBitVec.inj
  show (fg_sl_it (lN a) (lN p) 6).toBitVec = _
  rw [fg_sl_bv _ _ 6 (Nat.le_refl _), fc_u_lNs (by omega), show (2 : Nat) ^ 6 = 64 from rfl, Nat.mod_eq_of_lt hp]
  apply BitVec.eq_of_toNat_eq
  rw [BitVec.toNat_shiftLeft, Nat.shiftLeft_eq]
  show (fc_u (lN a)) * 2 ^ p % 2 ^ 64 = fc_u (lN (a * 2 ^ p))
  rw [fc_u_lN, fc_u_lN, Nat.mod_mul_mod]
/-- shifting right, with a mark of what fell off -/
def fc_sr (u n : Nat) : Nat := u / 2 ^ n ||| (if u % 2 ^ n = 0 then 0 else 1)
theorem fc_or1_div (x : Nat) {b : Nat} (hb : 1 ≤ b) : (x ||| 1) / 2 ^ b = x / 2 ^ b := by
  apply Nat.eq_of_testBit_eq
  intro i
  rw [Nat.testBit_div_two_pow, Nat.testBit_div_two_pow, Nat.testBit_or, show (1 : Nat) = 2 ^ 0 from rfl, Nat.testBit_two_pow, decide_eq_false (by omega)]
  simp
theorem fc_or1_mod (x : Nat) {b : Nat} (hb : 1 ≤ b) : (x ||| 1) % 2 ^ b ≠ 0 := by
  intro h
  have h1 : ((x ||| 1) % 2 ^ b).testBit 0 = true := by
    rw [Nat.testBit_mod_two_pow, Nat.testBit_or, decide_eq_true (by omega)]
    simp
  rw [h] at h1
  simp at h1
theorem fc_sr_sr (u a : Nat) {b : Nat} (hb : 1 ≤ b) : fc_sr (fc_sr u a) b = fc_sr u (a + b) := by
  have hd : u / 2 ^ (a + b) = u / 2 ^ a / 2 ^ b := by rw [Nat.pow_add, Nat.div_div_eq_div_mul]
  have hm : u % 2 ^ (a + b) = u % 2 ^ a + 2 ^ a * (u / 2 ^ a % 2 ^ b) := by rw [Nat.pow_add, Nat.mod_mul]
  have hp : 0 < 2 ^ a := Nat.pow_pos (by decide)
  unfold fc_sr
  by_cases h : u % 2 ^ a = 0
  · rw [if_pos h, Nat.or_zero, hd, hm, h, Nat.zero_add]
    have : (2 ^ a * (u / 2 ^ a % 2 ^ b) = 0) ↔ (u / 2 ^ a % 2 ^ b = 0) := by
      rw [Nat.mul_eq_zero]
      constructor
      · rintro (h1 | h1)
        · omega
        · exact h1
      · exact Or.inr
    simp only [this]
  · rw [if_neg h, fc_or1_div _ hb, if_neg (fc_or1_mod _ hb), hd, hm, if_neg (by omega)]
theorem fg_sr_step (mv : Int64) {n : Nat} (hn : n < 64) : fc_u (fc_ushr mv (nI n) ||| fg_any (mv &&& fg_ones (nI n))) = fc_sr (fc_u mv) n := by
  have e : mv &&& fg_ones (nI n) = lN (fc_u mv % 2 ^ n) := by
    have := fc_lN_mask (fc_u_lt mv) hn
    rwa [fc_lN_u] at this
  have hl : fc_u mv % 2 ^ n < 2 ^ 64 := Nat.lt_of_le_of_lt (Nat.mod_le _ _) (fc_u_lt mv)
  rw [fc_u_or, fc_u_ushr _ hn, e, fg_any_lN hl]
  unfold fc_sr
  by_cases h : fc_u mv % 2 ^ n = 0
  · rw [if_pos h]; rfl
  · rw [if_neg h]; rfl
theorem fg_sr_u (w p : Int64) : ∀ k, k ≤ 6 → fc_u (fg_sr_it w p k) = fc_sr (fc_u w) (fc_u p % 2 ^ k) := by
  intro k
  induction k with
  | zero =>
    intro _
    rw [Nat.pow_zero, Nat.mod_one]
    show fc_u w = _
    unfold fc_sr
    simp [Nat.mod_one]
  | succ k ih =>
    intro hk
    have hk6 : k < 6 := by omega
    show fc_u (fg_choose (fc_ushr p (nI k)) (fc_ushr (fg_sr_it w p k) (fc_ishl 1 (nI k)) ||| fg_any (fg_sr_it w p k &&& fg_ones (fc_ishl 1 (nI k)))) (fg_sr_it w p k)) = _
    rw [fg_choose_eq, fc_b_shift p (by omega), fc_mod_succ]
    cases h : (fc_u p).testBit k with
    | false =>
      rw [if_neg (by decide), ih (by omega)]
      simp
    | true =>
      rw [if_pos rfl, fc_pw k hk6, fg_sr_step _ (fc_pw64 hk6), ih (by omega), fc_sr_sr _ _ (Nat.pow_pos (by decide))]
      simp
theorem fc_sr_le (u n : Nat) : fc_sr u n ≤ u := by
  unfold fc_sr
  by_cases h : u % 2 ^ n = 0
  · rw [if_pos h, Nat.or_zero]; exact Nat.div_le_self _ _
  · rw [if_neg h]
    rcases Nat.eq_zero_or_pos n with hn | hn
    · subst hn; simp [Nat.mod_one] at h
    · have h1 : u / 2 ^ n ||| 1 ≤ u / 2 ^ n + 1 := by
        have h0 := fc_or1_div (u / 2 ^ n) (b := 1) (Nat.le_refl 1)
        rw [Nat.pow_one] at h0
        omega
      have h2 : u % 2 ^ n ≤ u := Nat.mod_le _ _
      have h3 := Nat.div_add_mod u (2 ^ n)
      have h4 : u / 2 ^ n ≤ 2 ^ n * (u / 2 ^ n) := Nat.le_mul_of_pos_left _ (Nat.pow_pos (by decide))
      omega
theorem fg_sr_lN {a p : Nat} (ha : a < 2 ^ 64) (hp : p < 64) : fg_sr (lN a) (lN p) = lN (fc_sr a p) := by
  apply fc_u_inj
  show fc_u (fg_sr_it (lN a) (lN p) 6) = _
  rw [fg_sr_u _ _ 6 (Nat.le_refl _), fc_u_lNs (show p < 2 ^ 64 by omega), show (2 : Nat) ^ 6 = 64 from rfl, Nat.mod_eq_of_lt hp, fc_u_lNs ha, fc_u_lNs (Nat.lt_of_le_of_lt (fc_sr_le a p) ha)]
end
section
/-! PURE: top, product, quotient, root on numbers -/
theorem fc_log2_div {r j : Nat} (h : r / 2 ^ j ≠ 0) : r.log2 = (r / 2 ^ j).log2 + j := by
  have hr : r ≠ 0 := fun e => h (by rw [e, Nat.zero_div])
  have hp : 0 < 2 ^ j := Nat.pow_pos (by decide)
  obtain ⟨h1, h2⟩ := (Nat.log2_eq_iff h).mp rfl
  rw [Nat.log2_eq_iff hr]
  constructor
  · rw [Nat.pow_add]
    exact (Nat.le_div_iff_mul_le hp).mp h1
  · rw [show (r / 2 ^ j).log2 + j + 1 = (r / 2 ^ j).log2 + 1 + j by omega, Nat.pow_add]
    exact (Nat.div_lt_iff_lt_mul hp).mp h2
theorem fg_top_u : ∀ n, n ≤ 6 → ∀ (a : Nat) (rest : Int64), fc_u rest ≠ 0 → fc_u rest < 2 ^ 2 ^ n → a < 64 → a % 2 ^ n = 0 → fg_top_it n (lN a) rest = lN (a + (fc_u rest).log2) := by
  intro n
  induction n with
  | zero =>
    intro _ a rest h0 h1 _ _
    have : fc_u rest = 1 := by
      have h1 : fc_u rest < 2 := h1
      omega
    rw [this]
    rfl
  | succ n ih =>
    intro hn a rest h0 h1 ha hm
    have hn6 : n < 6 := by omega
    have hp := fc_pw64 hn6
    show fg_top_it n (lN a ||| fc_shl (fg_any (fc_ushr rest (fc_ishl 1 (nI n)))) (nI n)) (fg_choose (fg_any (fc_ushr rest (fc_ishl 1 (nI n)))) (fc_ushr rest (fc_ishl 1 (nI n))) rest) = _
    rw [fc_pw n hn6]
    have hu := fc_u_ushr rest hp
    generalize fc_ushr rest (nI (2 ^ n)) = up at hu ⊢
    have e2 : 2 ^ (n + 1) = 2 ^ n + 2 ^ n := by rw [Nat.pow_succ]; omega
    have hmn : a % 2 ^ n = 0 := by
      have := Nat.mod_mod_of_dvd a (show 2 ^ n ∣ 2 ^ (n + 1) from ⟨2, by rw [Nat.pow_succ]⟩)
      rw [hm, Nat.zero_mod] at this
      exact this.symm
    by_cases hz : fc_u up = 0
    · have hup : up = 0 := fc_u_inj hz
      subst hup
      rw [show fg_any (0 : Int64) = fc_bit false by decide +kernel, fg_choose_bit, if_neg (by decide)]
      have e0 : fc_shl (fc_bit false) (nI n) = 0 := by
        rw [show fc_bit false = lN 0 from rfl, fc_lN_shl 0 (by omega), Nat.zero_mul]; rfl
      rw [e0, show lN a ||| (0 : Int64) = lN a from by apply fc_u_inj; rw [fc_u_or]; show _ ||| 0 = _; rw [Nat.or_zero]]
      refine ih (by omega) a rest h0 ?_ ha hmn
      have hz' : fc_u rest / 2 ^ 2 ^ n = 0 := by rw [← hu]; rfl
      exact (Nat.div_eq_zero_iff_lt (Nat.pow_pos (by decide))).mp hz'
    · have hup : up ≠ 0 := fun e => hz (by rw [e]; rfl)
      rw [fg_any_bit, decide_eq_true hup, fg_choose_bit, if_pos rfl]
      have hq : a / 2 ^ (n + 1) * 2 ^ (n + 1) = a := Nat.div_mul_cancel (Nat.dvd_of_mod_eq_zero hm)
      have e1 : lN a ||| fc_shl (fc_bit true) (nI n) = lN (a + 2 ^ n) := by
        rw [show fc_bit true = lN 1 from rfl, fc_lN_shl 1 (by omega), Nat.one_mul]
        have h := fc_lN_or_add (a := a / 2 ^ (n + 1)) (b := 2 ^ n) (k := n + 1) (by omega) (by rw [hq]; omega)
        rwa [hq] at h
      have ha' : a + 2 ^ n < 64 := by
        have hc : 2 ^ (n + 1) ∣ 64 := ⟨2 ^ (6 - (n + 1)), by rw [← Nat.pow_add, show n + 1 + (6 - (n + 1)) = 6 by omega]⟩
        obtain ⟨d, hd⟩ := hc
        have hlt : a / 2 ^ (n + 1) < d := by
          rw [Nat.div_lt_iff_lt_mul (Nat.pow_pos (by decide)), Nat.mul_comm, ← hd]; exact ha
        have : (a / 2 ^ (n + 1) + 1) * 2 ^ (n + 1) ≤ d * 2 ^ (n + 1) := Nat.mul_le_mul_right _ hlt
        rw [Nat.add_mul, hq, Nat.mul_comm d, ← hd] at this
        have hp2 : 0 < 2 ^ n := Nat.pow_pos (by decide)
        omega
      have hlt : fc_u up < 2 ^ 2 ^ n := by
        rw [hu, Nat.div_lt_iff_lt_mul (Nat.pow_pos (by decide)), ← Nat.pow_add, ← e2]
        exact h1
      have hm' : (a + 2 ^ n) % 2 ^ n = 0 := by rw [Nat.add_mod_right, hmn]
      rw [e1, ih (by omega) (a + 2 ^ n) up hz hlt ha' hm', hu, fc_log2_div (r := fc_u rest) (j := 2 ^ n) (by rw [← hu]; exact hz)]
      congr 1
      omega
theorem fg_top_lN {a : Nat} (h0 : a ≠ 0) (ha : a < 2 ^ 64) : fg_top (lN a) = lN a.log2 := by
  have h := fg_top_u 6 (Nat.le_refl _) 0 (lN a) (by rw [fc_u_lNs ha]; exact h0) (by rw [fc_u_lNs ha]; exact ha) (by decide) (by decide)
  rw [fc_u_lNs ha, Nat.zero_add] at h
  exact h
/-- the product -/
theorem fg_prod_u (a : Nat) {b : Nat} (hb : b < 2 ^ 64) : ∀ k, k ≤ 63 → fg_prod_it (lN a) (lN b) k = lN (a * (b % 2 ^ k)) := by
  intro k
  induction k with
  | zero =>
    intro _
    rw [Nat.pow_zero, Nat.mod_one]; rfl
  | succ k ih =>
    intro hk
    show fg_sum (fg_prod_it (lN a) (lN b) k) (fc_shl (lN a) (nI k) &&& fg_fan (fc_ushr (lN b) (nI k))) = _
    rw [fg_sum_eq, ih (by omega), fc_lN_shl a (by omega), fc_mod_succ]
    have hbit : fc_b (fc_ushr (lN b) (nI k)) 0 = b.testBit k := by rw [fc_b_shift _ (by omega), fc_u_lNs hb]
    have e : lN (a * 2 ^ k) &&& fg_fan (fc_ushr (lN b) (nI k)) = lN (a * 2 ^ k * (b.testBit k).toNat) := by
      apply fc_ext; intro i hi
      rw [fc_b_and, fg_fan_b _ hi, hbit]
      cases b.testBit k
      · show (_ && false) = fc_b (lN (_ * 0)) i
        rw [Nat.mul_zero, Bool.and_false]
        exact (fc_b_0 i).symm
      · show (_ && true) = fc_b (lN (_ * 1)) i
        rw [Nat.mul_one, Bool.and_true]
    rw [e, lN_add, Nat.mul_add, Nat.mul_assoc]
/-- longs of small numbers, compared -/
theorem fc_lN_sub_neg {a b : Nat} (ha : a < 2 ^ 62) (hb : b < 2 ^ 62) : (lN a - lN b < 0) ↔ a < b := by
  rw [Int64.lt_iff_toInt_lt]
  have e : lN a - lN b = Int64.ofInt ((a : Int) - b) := by
    rw [Int64.ofInt_sub, Int64.ofInt_eq_ofNat, Int64.ofInt_eq_ofNat]; rfl
  rw [e, Int64.toInt_ofInt_of_le (by omega) (by omega)]
  show (a : Int) - b < 0 ↔ _
  omega
theorem fc_bit_x1 (c : Bool) : fc_bit c ^^^ 1 = fc_bit (!c) := by cases c <;> decide
theorem fg_quo_f_bit {r b : Nat} (hr : r < 2 ^ 62) (hb : b < 2 ^ 62) : fg_quo_f (lN r - lN b) = fc_bit (decide (b ≤ r)) := by
  unfold fg_quo_f
  rw [fg_neg_bit, fc_bit_x1]
  congr 1
  by_cases h : b ≤ r
  · rw [decide_eq_true h, decide_eq_false (fun q => by have := (fc_lN_sub_neg hr hb).mp q; omega)]; rfl
  · rw [decide_eq_false h, decide_eq_true ((fc_lN_sub_neg hr hb).mpr (by omega))]; rfl
theorem fg_quo_it_u {a b : Nat} (ha : a < 2 ^ 60) (hb0 : 0 < b) (hb : b < 2 ^ 60) : ∀ n, n ≤ 60 → ∀ ans rest : Nat, a / 2 ^ n = ans * b + rest → rest < b → fg_quo_it (lN a) (lN b) n (lN ans) (lN rest) = (lN (a / b), lN (a % b)) := by
  intro n
  induction n with
  | zero =>
    intro _ ans rest h1 h2
    rw [Nat.pow_zero, Nat.div_one] at h1
    have hq : a / b = ans := by
      rw [h1, Nat.mul_comm, Nat.mul_add_div hb0, Nat.div_eq_of_lt h2, Nat.add_zero]
    have hm : a % b = rest := by
      rw [h1, Nat.mul_comm, Nat.mul_add_mod, Nat.mod_eq_of_lt h2]
    rw [hq, hm]; rfl
  | succ n ih =>
    intro hn ans rest h1 h2
    show fg_quo_it (lN a) (lN b) n (fc_shl (lN ans) 1 ||| fg_quo_f (fg_diff (fg_quo_r (lN a) (lN rest) n) (lN b))) (fg_choose (fg_quo_f (fg_diff (fg_quo_r (lN a) (lN rest) n) (lN b))) (fg_diff (fg_quo_r (lN a) (lN rest) n) (lN b)) (fg_quo_r (lN a) (lN rest) n)) = _
    have hq1 : a / 2 ^ n / 2 = a / 2 ^ (n + 1) := by rw [Nat.div_div_eq_div_mul, ← Nat.pow_succ]
    have hans : ans < 2 ^ 60 := by
      have : ans * 1 ≤ ans * b := Nat.mul_le_mul_left _ hb0
      have h3 : a / 2 ^ (n + 1) ≤ a := Nat.div_le_self _ _
      omega
    have hr : fg_quo_r (lN a) (lN rest) n = lN (2 * rest + a / 2 ^ n % 2) := by
      unfold fg_quo_r
      rw [show (1 : Int32) = nI 1 from rfl, fc_lN_shl rest (by omega), fc_lN_ushr (by omega) (by omega), fc_lN_and1 (Nat.lt_of_le_of_lt (Nat.div_le_self _ _) (by omega)), fc_lN_or_add (by omega) (by omega)]
      congr 1; omega
    rw [hr]
    have hd : a / 2 ^ n = ans * 2 * b + (2 * rest + a / 2 ^ n % 2) := by
      have := Nat.div_add_mod (a / 2 ^ n) 2
      rw [hq1, h1] at this
      rw [Nat.mul_right_comm]; omega
    have hrb : 2 * rest + a / 2 ^ n % 2 < 2 * b := by omega
    generalize 2 * rest + a / 2 ^ n % 2 = r at hd hrb ⊢
    rw [fg_diff_eq, fg_quo_f_bit (by omega) (by omega), fg_choose_bit, show (1 : Int32) = nI 1 from rfl, fc_lN_shl ans (by omega)]
    by_cases h : b ≤ r
    · have e1 : lN (ans * 2 ^ 1) ||| fc_bit true = lN (ans * 2 + 1) := by
        rw [show fc_bit true = lN 1 from rfl, fc_lN_or_add (by decide) (by omega)]
      rw [decide_eq_true h, if_pos rfl, lN_sub h, e1]
      refine ih (by omega) (ans * 2 + 1) (r - b) ?_ (by omega)
      rw [Nat.add_mul, Nat.one_mul]; omega
    · have e1 : lN (ans * 2 ^ 1) ||| fc_bit false = lN (ans * 2) := by
        rw [show fc_bit false = lN 0 from rfl, fc_lN_or_add (by decide) (by omega)]; rfl
      rw [decide_eq_false h, if_neg (by decide), e1]
      exact ih (by omega) (ans * 2) r hd (by omega)
theorem fg_quo_lN {a b n : Nat} (ha : a < 2 ^ n) (hn : n ≤ 60) (hb0 : 0 < b) (hb : b < 2 ^ 60) : fg_quo (lN a) (lN b) n = lN (2 * (a / b) + (if a % b = 0 then 0 else 1)) := by
  have ha60 : a < 2 ^ 60 := Nat.lt_of_lt_of_le ha (Nat.pow_le_pow_right (by decide) hn)
  have h := fg_quo_it_u ha60 hb0 hb n hn 0 0 (by rw [Nat.div_eq_of_lt ha]; omega) hb0
  unfold fg_quo
  rw [show (0 : Int64) = lN 0 from rfl, h]
  have h1 : a / b ≤ a := Nat.div_le_self _ _
  have h2 : a % b < b := Nat.mod_lt _ hb0
  show fc_shl (lN (a / b)) 1 ||| fg_any (lN (a % b)) = _
  rw [show (1 : Int32) = nI 1 from rfl, fc_lN_shl _ (by omega), fg_any_lN (by omega), fc_lN_or_add (by split <;> decide) (by split <;> omega)]
  congr 1
  omega
theorem fc_sq0 (s : Nat) : s * 2 * (s * 2) = 4 * (s * s) := by
  rw [Nat.mul_mul_mul_comm, Nat.mul_comm]
theorem fc_sq1 (s : Nat) : (s * 2 + 1) * (s * 2 + 1) = 4 * (s * s) + 4 * s + 1 := by
  rw [Nat.add_mul, Nat.mul_add, fc_sq0]
  omega
theorem fc_lN_and3 {a : Nat} (ha : a < 2 ^ 64) : lN a &&& 3 = lN (a % 4) := by
  apply fc_u_inj
  rw [fc_u_and, fc_u_lNs ha, fc_u_lNs (by omega), show fc_u 3 = 2 ^ 2 - 1 from rfl, Nat.and_two_pow_sub_one_eq_mod]
theorem fg_root_it_u {a : Nat} (ha : a < 2 ^ 60) : ∀ n, n ≤ 30 → ∀ ans rest : Nat, a / 4 ^ n = ans * ans + rest → rest ≤ 2 * ans → ∃ s : Nat, s * s ≤ a ∧ a < (s + 1) * (s + 1) ∧ fg_root_it (lN a) n (lN ans) (lN rest) = (lN s, lN (a - s * s)) := by
  intro n
  induction n with
  | zero =>
    intro _ ans rest h1 h2
    rw [Nat.pow_zero, Nat.div_one] at h1
    refine ⟨ans, by omega, ?_, ?_⟩
    · rw [Nat.add_mul, Nat.mul_add]; omega
    · rw [show a - ans * ans = rest by omega]; rfl
  | succ n ih =>
    intro hn ans rest h1 h2
    have hq1 : a / 4 ^ n / 4 = a / 4 ^ (n + 1) := by rw [Nat.div_div_eq_div_mul, ← Nat.pow_succ]
    have hans : ans < 2 ^ 30 := by
      refine Classical.byContradiction fun h => ?_
      have h3 : 2 ^ 30 * 2 ^ 30 ≤ ans * ans := Nat.mul_le_mul (by omega) (by omega)
      have h4 : a / 4 ^ (n + 1) ≤ a := Nat.div_le_self _ _
      have h5 : (2 : Nat) ^ 30 * 2 ^ 30 = 2 ^ 60 := by decide
      omega
    have e4 : (4 : Nat) ^ n = 2 ^ (2 * n) := by rw [show (4 : Nat) = 2 ^ 2 from rfl, ← Nat.pow_mul]
    have hr : fg_root_r (lN a) (lN rest) n = lN (4 * rest + a / 4 ^ n % 4) := by
      unfold fg_root_r
      rw [show (2 : Int32) = nI 2 from rfl, fc_lN_shl rest (by omega), pk_mul, fc_lN_ushr (by omega) (by omega), fc_lN_and3 (Nat.lt_of_le_of_lt (Nat.div_le_self _ _) (by omega)), fc_lN_or_add (by omega) (by omega), ← e4]
      congr 1; omega
    have hd : a / 4 ^ n = 4 * (ans * ans) + (4 * rest + a / 4 ^ n % 4) := by
      have := Nat.div_add_mod (a / 4 ^ n) 4
      rw [hq1, h1] at this
      omega
    show ∃ s : Nat, s * s ≤ a ∧ a < (s + 1) * (s + 1) ∧ fg_root_it (lN a) n (fc_shl (lN ans) 1 ||| fg_quo_f (fg_root_l (lN ans) (fg_root_r (lN a) (lN rest) n))) (fg_choose (fg_quo_f (fg_root_l (lN ans) (fg_root_r (lN a) (lN rest) n))) (fg_root_l (lN ans) (fg_root_r (lN a) (lN rest) n)) (fg_root_r (lN a) (lN rest) n)) = (lN s, lN (a - s * s))
    have hl : ∀ r : Nat, fg_root_l (lN ans) (lN r) = lN r - lN (4 * ans + 1) := by
      intro r
      unfold fg_root_l
      rw [show (2 : Int32) = nI 2 from rfl, fc_lN_shl ans (by omega), show (1 : Int64) = lN 1 from rfl, fc_lN_or_add (by decide) (by omega), fg_diff_eq]
      congr 2; omega
    rw [hr]
    have hrb : 4 * rest + a / 4 ^ n % 4 ≤ 8 * ans + 3 := by omega
    generalize 4 * rest + a / 4 ^ n % 4 = r at hd hrb ⊢
    rw [hl, fg_quo_f_bit (by omega) (by omega), fg_choose_bit, show (1 : Int32) = nI 1 from rfl, fc_lN_shl ans (by omega)]
    by_cases h : 4 * ans + 1 ≤ r
    · have e1 : lN (ans * 2 ^ 1) ||| fc_bit true = lN (ans * 2 + 1) := by
        rw [show fc_bit true = lN 1 from rfl, fc_lN_or_add (by decide) (by omega)]
      rw [decide_eq_true h, if_pos rfl, lN_sub h, e1]
      refine ih (by omega) (ans * 2 + 1) (r - (4 * ans + 1)) ?_ (by omega)
      rw [fc_sq1]; omega
    · have e1 : lN (ans * 2 ^ 1) ||| fc_bit false = lN (ans * 2) := by
        rw [show fc_bit false = lN 0 from rfl, fc_lN_or_add (by decide) (by omega)]; rfl
      rw [decide_eq_false h, if_neg (by decide), e1]
      refine ih (by omega) (ans * 2) r ?_ (by omega)
      rw [fc_sq0]; omega
theorem fg_root_lN {a n : Nat} (ha : a < 4 ^ n) (hn : n ≤ 30) : ∃ s : Nat, s * s ≤ a ∧ a < (s + 1) * (s + 1) ∧ fg_root (lN a) n = lN (2 * s + (if s * s = a then 0 else 1)) := by
  have ha60 : a < 2 ^ 60 := by
    have h1 : (4 : Nat) ^ n ≤ 4 ^ 30 := Nat.pow_le_pow_right (by decide) hn
    have h2 : (4 : Nat) ^ 30 = 2 ^ 60 := by decide
    omega
  obtain ⟨s, h1, h2, h3⟩ := fg_root_it_u ha60 n hn 0 0 (by rw [Nat.div_eq_of_lt ha]) (Nat.le_refl _)
  refine ⟨s, h1, h2, ?_⟩
  unfold fg_root
  rw [show (0 : Int64) = lN 0 from rfl, h3]
  have hs : s < 2 ^ 30 := by
    refine Classical.byContradiction fun h => ?_
    have h3 : 2 ^ 30 * 2 ^ 30 ≤ s * s := Nat.mul_le_mul (by omega) (by omega)
    have h5 : (2 : Nat) ^ 30 * 2 ^ 30 = 2 ^ 60 := by decide
    omega
  show fc_shl (lN s) 1 ||| fg_any (lN (a - s * s)) = _
  rw [show (1 : Int32) = nI 1 from rfl, fc_lN_shl _ (by omega), fg_any_lN (by omega), fc_lN_or_add (by split <;> decide) (by split <;> omega)]
  congr 1
  by_cases h : s * s = a
  · rw [if_pos (by omega), if_pos h]; omega
  · rw [if_neg (by omega), if_neg h]; omega
end
section
/-! PURE: rounding, on numbers -/
def sp_up (mode : Nat) (neg odd half rest : Bool) : Bool := match mode with
  | 0 => half && (rest || odd)
  | 1 => half
  | 2 => (half || rest) && !neg
  | 3 => (half || rest) && neg
  | _ => false
def sp_cut (mode : Nat) (neg : Bool) (m n : Nat) (more : Bool) : Nat :=
  if n = 0 then m else m / 2 ^ n + (sp_up mode neg (decide (m / 2 ^ n % 2 = 1)) (decide (m / 2 ^ (n - 1) % 2 = 1)) (decide (m % 2 ^ (n - 1) ≠ 0) || more)).toNat
/-- the magnitude m * 2^p (and a little more) counted in 2^unit -/
def sp_at (mode : Nat) (neg : Bool) (m : Nat) (p unit : Int) (more : Bool) : Nat :=
  if p ≤ unit then sp_cut mode neg m (unit - p).toNat more else m * 2 ^ (p - unit).toNat
def sp_least (e s : Nat) : Int := 2 - 2 ^ (e - 1) - (s - 1 : Nat)
def sp_unit (e s m : Nat) (p : Int) : Int := if p + m.log2 - (s - 1 : Nat) < sp_least e s then sp_least e s else p + m.log2 - (s - 1 : Nat)
def sp_inf (e s : Nat) : Nat := (2 ^ e - 1) * 2 ^ (s - 1)
def sp_pk (e s mode : Nat) (neg : Bool) (m : Nat) (p : Int) (more : Bool) : Nat := (sp_unit e s m p - sp_least e s).toNat * 2 ^ (s - 1) + sp_at mode neg m p (sp_unit e s m p) more
/-- is what lies beyond the greatest infinite? -/
def sp_end (mode : Nat) (neg : Bool) : Bool := match mode with
  | 0 => true
  | 1 => true
  | 2 => !neg
  | 3 => neg
  | _ => false
def sp_round (e s mode : Nat) (neg : Bool) (m : Nat) (p : Int) (more : Bool) : Nat :=
  if sp_pk e s mode neg m p more < sp_inf e s then sp_pk e s mode neg m p more else if sp_end mode neg then sp_inf e s else sp_inf e s - 1
/-- the mark of a shift keeps all that a rounding asks -/
theorem sp_mark (m : Nat) {n : Nat} (hn : 1 ≤ n) : fc_sr (4 * m) n / 4 = m / 2 ^ n ∧ fc_sr (4 * m) n / 2 % 2 = m / 2 ^ (n - 1) % 2 ∧ fc_sr (4 * m) n % 2 = if m % 2 ^ (n - 1) = 0 then 0 else 1 := by
  rcases Nat.lt_or_ge n 2 with h | h
  · have : n = 1 := by omega
    subst this
    have e : fc_sr (4 * m) 1 = 2 * m := by
      unfold fc_sr
      rw [Nat.pow_one, if_pos (by omega), Nat.or_zero]
      omega
    rw [e, Nat.pow_one, show (1 - 1 : Nat) = 0 from rfl, Nat.pow_zero, Nat.mod_one, Nat.div_one]
    refine ⟨by omega, by omega, ?_⟩
    rw [if_pos rfl]
    omega
  · obtain ⟨j, rfl⟩ : ∃ j, n = j + 2 := ⟨n - 2, by omega⟩
    have hp : 0 < 2 ^ j := Nat.pow_pos (by decide)
    have e2 : 2 ^ (j + 2) = 4 * 2 ^ j := by rw [Nat.pow_add]; omega
    have e1 : 2 ^ (j + 2 - 1) = 2 ^ j * 2 := by rw [show j + 2 - 1 = j + 1 by omega, Nat.pow_succ]
    have d1 : 4 * m / 2 ^ (j + 2) = m / 2 ^ j := by rw [e2, Nat.mul_div_mul_left _ _ (by decide)]
    have d2 : 4 * m % 2 ^ (j + 2) = 4 * (m % 2 ^ j) := by rw [e2, Nat.mul_mod_mul_left]
    have q4 : m / 2 ^ (j + 2) = m / 2 ^ j / 4 := by rw [e2, Nat.mul_comm, Nat.div_div_eq_div_mul]
    have q2 : m / 2 ^ (j + 2 - 1) = m / 2 ^ j / 2 := by rw [e1, Nat.div_div_eq_div_mul]
    have m2 : m % 2 ^ (j + 2 - 1) = m % 2 ^ j + 2 ^ j * (m / 2 ^ j % 2) := by rw [e1, Nat.mod_mul]
    rw [q4, q2, m2]
    unfold fc_sr
    rw [d1, d2]
    generalize m / 2 ^ j = x
    generalize m % 2 ^ j = y
    have z : (y + 2 ^ j * (x % 2) = 0) ↔ (y = 0 ∧ x % 2 = 0) := by
      constructor
      · intro h0
        refine ⟨by omega, ?_⟩
        rcases Nat.mod_two_eq_zero_or_one x with h1 | h1
        · exact h1
        · rw [h1] at h0; omega
      · rintro ⟨rfl, h1⟩
        rw [h1, Nat.mul_zero]
    by_cases hy : y = 0
    · subst hy
      rw [if_pos rfl, Nat.or_zero]
      refine ⟨rfl, rfl, ?_⟩
      by_cases hx : x % 2 = 0
      · rw [if_pos (z.mpr ⟨rfl, hx⟩)]; exact hx
      · rw [if_neg (fun h0 => hx (z.mp h0).2)]; omega
    · have o2 := fc_or1_div x (b := 2) (by decide)
      have o1 := fc_or1_div x (b := 1) (by decide)
      have o0 := fc_or1_mod x (b := 1) (by decide)
      rw [show (2 : Nat) ^ 2 = 4 from rfl] at o2
      rw [Nat.pow_one] at o1 o0
      rw [if_neg (by omega), if_neg (fun h0 => hy (z.mp h0).1), o2, o1]
      exact ⟨rfl, rfl, by omega⟩
/-- fewer places, the rest in the mark -/
theorem sp_cut_less (mode : Nat) (neg : Bool) (Q : Nat) {n : Nat} (hn : 1 ≤ n) (j : Nat) (more : Bool) : sp_cut mode neg Q (n + j) more = sp_cut mode neg (Q / 2 ^ j) n (more || decide (Q % 2 ^ j ≠ 0)) := by
  have hp : 0 < 2 ^ j := Nat.pow_pos (by decide)
  unfold sp_cut
  rw [if_neg (by omega), if_neg (by omega), Nat.add_comm n j, Nat.div_div_eq_div_mul, Nat.div_div_eq_div_mul, ← Nat.pow_add, ← Nat.pow_add, show j + n - 1 = j + (n - 1) by omega]
  have e : (decide (Q % 2 ^ (j + (n - 1)) ≠ 0) || more) = (decide (Q / 2 ^ j % 2 ^ (n - 1) ≠ 0) || (more || decide (Q % 2 ^ j ≠ 0))) := by
    rw [Nat.pow_add, Nat.mod_mul]
    by_cases h1 : Q % 2 ^ j = 0
    · by_cases h2 : Q / 2 ^ j % 2 ^ (n - 1) = 0
      · simp [h1, h2]
      · have : 2 ^ j * (Q / 2 ^ j % 2 ^ (n - 1)) ≠ 0 := Nat.mul_ne_zero (by omega) h2
        simp [h1, h2, this]
    · have : Q % 2 ^ j + 2 ^ j * (Q / 2 ^ j % 2 ^ (n - 1)) ≠ 0 := by omega
      simp [h1, this]
  rw [e]
theorem sp_round_less (e s mode : Nat) (neg : Bool) (Q : Nat) (p : Int) (more : Bool) (j : Nat) (hq : s ≤ (Q / 2 ^ j).log2) (hs : 1 ≤ s) : sp_round e s mode neg Q p more = sp_round e s mode neg (Q / 2 ^ j) (p + j) (more || decide (Q % 2 ^ j ≠ 0)) := by
  have h0 : Q / 2 ^ j ≠ 0 := by
    intro h
    rw [h, Nat.log2_zero] at hq
    omega
  have hl := fc_log2_div h0
  have hu : sp_unit e s Q p = sp_unit e s (Q / 2 ^ j) (p + j) := by
    unfold sp_unit
    rw [hl, show p + ((Q / 2 ^ j).log2 + j : Nat) - ((s - 1 : Nat) : Int) = p + j + (Q / 2 ^ j).log2 - (s - 1 : Nat) by omega]
  have hg : p + j + (Q / 2 ^ j).log2 - (s - 1 : Nat) ≤ sp_unit e s (Q / 2 ^ j) (p + j) := by
    unfold sp_unit
    split <;> omega
  have hpk : sp_pk e s mode neg Q p more = sp_pk e s mode neg (Q / 2 ^ j) (p + j) (more || decide (Q % 2 ^ j ≠ 0)) := by
    unfold sp_pk
    rw [hu]
    generalize sp_unit e s (Q / 2 ^ j) (p + j) = u at hg
    unfold sp_at
    rw [if_pos (by omega), if_pos (by omega), show (u - p).toNat = (u - (p + j)).toNat + j by omega, sp_cut_less mode neg Q (by omega)]
  unfold sp_round
  rw [hpk]
/-- the quotient with 24 places more and a mark, and the quotient with 40 -/
theorem sp_quo (a : Nat) {b : Nat} (hb : 0 < b) : a * 2 ^ 40 / b / 2 ^ 16 = a * 2 ^ 24 / b ∧ ((decide (a * 2 ^ 40 % b ≠ 0) || decide (a * 2 ^ 40 / b % 2 ^ 16 ≠ 0)) = decide (a * 2 ^ 24 % b ≠ 0)) := by
  have e : a * 2 ^ 40 = a * 2 ^ 24 * 2 ^ 16 := by rw [Nat.mul_assoc, ← Nat.pow_add]
  have h1 : a * 2 ^ 40 / b / 2 ^ 16 = a * 2 ^ 24 / b := by
    rw [e, Nat.div_div_eq_div_mul, Nat.mul_div_mul_right _ _ (by decide)]
  refine ⟨h1, ?_⟩
  have hA := Nat.div_add_mod (a * 2 ^ 40) b
  have hB := Nat.div_add_mod (a * 2 ^ 24) b
  have hC := Nat.div_add_mod (a * 2 ^ 40 / b) (2 ^ 16)
  rw [h1] at hC
  have key : a * 2 ^ 24 % b = 0 ↔ (a * 2 ^ 40 % b = 0 ∧ a * 2 ^ 40 / b % 2 ^ 16 = 0) := by
    constructor
    · intro h
      have h2 : a * 2 ^ 40 = b * (a * 2 ^ 24 / b * 2 ^ 16) := by rw [← Nat.mul_assoc, e]; rw [h, Nat.add_zero] at hB; rw [hB]
      have h3 : a * 2 ^ 40 % b = 0 := by rw [h2]; exact Nat.mul_mod_right _ _
      refine ⟨h3, ?_⟩
      rw [h2, Nat.mul_div_cancel_left _ hb]
      exact Nat.mul_mod_left _ _
    · rintro ⟨h2, h3⟩
      rw [h3, Nat.add_zero] at hC
      rw [h2, Nat.add_zero, ← hC, e] at hA
      have h4 : b * (a * 2 ^ 24 / b) * 2 ^ 16 = a * 2 ^ 24 * 2 ^ 16 := by
        rw [← hA, Nat.mul_assoc, Nat.mul_comm (2 ^ 16)]
      have h5 : b * (a * 2 ^ 24 / b) = a * 2 ^ 24 := Nat.eq_of_mul_eq_mul_right (by decide) h4
      rw [h5] at hB
      exact Nat.add_left_cancel (hB.trans (Nat.add_zero _).symm)
  by_cases h : a * 2 ^ 24 % b = 0
  · obtain ⟨h2, h3⟩ := key.mp h
    simp [h, h2, h3]
  · by_cases h2 : a * 2 ^ 40 % b = 0
    · have h3 : a * 2 ^ 40 / b % 2 ^ 16 ≠ 0 := fun q => h (key.mpr ⟨h2, q⟩)
      simp [h, h3]
    · simp [h, h2]
theorem sp_sqrt_le {a b : Nat} (h : a * a ≤ b * b) : a ≤ b := by
  refine Classical.byContradiction fun hn => ?_
  have : (b + 1) * (b + 1) ≤ a * a := Nat.mul_le_mul (by omega) (by omega)
  rw [Nat.add_mul, Nat.mul_add] at this
  omega
theorem sp_sqrt_lt {a b : Nat} (h : a * a < b * b) : a < b := by
  refine Classical.byContradiction fun hn => ?_
  have : b * b ≤ a * a := Nat.mul_le_mul (by omega) (by omega)
  omega
/-- the root with 24 places more and a mark, and the root with 40 -/
theorem sp_root {x r s : Nat} (h1 : s * s ≤ x) (h2 : x < (s + 1) * (s + 1)) (h3 : r * r ≤ x * 2 ^ 16) (h4 : x * 2 ^ 16 < (r + 1) * (r + 1)) : r / 2 ^ 8 = s ∧ ((decide (r * r ≠ x * 2 ^ 16) || decide (r % 2 ^ 8 ≠ 0)) = decide (s * s ≠ x)) := by
  have hR := Nat.div_add_mod r (2 ^ 8)
  have hm : r % 2 ^ 8 < 2 ^ 8 := Nat.mod_lt _ (by decide)
  have sq : ∀ z : Nat, 2 ^ 8 * z * (2 ^ 8 * z) = z * z * 2 ^ 16 := by
    intro z
    rw [Nat.mul_mul_mul_comm, Nat.mul_comm (2 ^ 8 * 2 ^ 8)]
  have l1 : 2 ^ 8 * s ≤ r := by
    have : 2 ^ 8 * s * (2 ^ 8 * s) < (r + 1) * (r + 1) := by
      rw [sq]
      exact Nat.lt_of_le_of_lt (Nat.mul_le_mul_right _ h1) h4
    have := sp_sqrt_lt this
    omega
  have l2 : r < 2 ^ 8 * (s + 1) := by
    apply sp_sqrt_lt
    rw [sq]
    exact Nat.lt_of_le_of_lt h3 (Nat.mul_lt_mul_of_pos_right h2 (by decide))
  have hd : r / 2 ^ 8 = s := by omega
  refine ⟨hd, ?_⟩
  rw [hd] at hR
  have key : s * s = x ↔ (r * r = x * 2 ^ 16 ∧ r % 2 ^ 8 = 0) := by
    constructor
    · intro h
      have l3 : r ≤ 2 ^ 8 * s := by
        apply sp_sqrt_le
        rw [sq, h]; exact h3
      have er : r = 2 ^ 8 * s := by omega
      exact ⟨by rw [er, sq, h], by omega⟩
    · rintro ⟨h5, h6⟩
      have er : r = 2 ^ 8 * s := by omega
      rw [er, sq] at h5
      exact Nat.eq_of_mul_eq_mul_right (by decide) h5
  by_cases h : s * s = x
  · obtain ⟨h5, h6⟩ := key.mp h
    simp [h, h5, h6]
  · by_cases h5 : r * r = x * 2 ^ 16
    · have h6 : r % 2 ^ 8 ≠ 0 := fun q => h (key.mpr ⟨h5, q⟩)
      simp [h, h6]
    · simp [h, h5]
end
section
/-! PURE: the packing, on numbers -/
/-- what the reference does behind its cut (one place more where v is the next power of two; beyond the greatest: A) is the packed number, or A -/
theorem sp_pack_cases (P B k v A : Nat) (hP : 0 < P) (hv : v ≤ 2 * P) (hk : v < P → k = 0) (hB : 1 ≤ B) :
    (if P ≤ (if v = 2 * P then P else v) ∧ B ≤ (if v = 2 * P then k + 1 else k) then A else if (if v = 2 * P then P else v) < P then (if v = 2 * P then P else v) else ((if v = 2 * P then k + 1 else k) + 1) * P + (if v = 2 * P then P else v) % P) = if k * P + v < B * P + P then k * P + v else A := by
  by_cases h2 : v = 2 * P
  · rw [if_pos h2, if_pos h2]
    by_cases hb : B ≤ k + 1
    · have h1 : B * P ≤ (k + 1) * P := Nat.mul_le_mul_right _ hb
      rw [Nat.add_mul, Nat.one_mul] at h1
      rw [if_pos ⟨Nat.le_refl _, hb⟩, if_neg (by omega)]
    · have h1 : (k + 1 + 1) * P ≤ B * P := Nat.mul_le_mul_right _ (by omega)
      rw [Nat.add_mul, Nat.add_mul, Nat.one_mul] at h1
      rw [if_neg (fun h => hb h.2), if_neg (by omega), if_pos (by omega), Nat.mod_self, Nat.add_mul, Nat.add_mul, Nat.one_mul]
      omega
  · rw [if_neg h2, if_neg h2]
    by_cases hlo : v < P
    · have h0 := hk hlo
      subst h0
      have h1 : 1 * P ≤ B * P := Nat.mul_le_mul_right _ hB
      rw [Nat.one_mul] at h1
      rw [if_neg (fun h => by omega), if_pos hlo, if_pos (by omega)]
      omega
    · by_cases hb : B ≤ k
      · have h1 : B * P ≤ k * P := Nat.mul_le_mul_right _ hb
        rw [if_pos ⟨by omega, hb⟩, if_neg (by omega)]
      · have h1 : (k + 1) * P ≤ B * P := Nat.mul_le_mul_right _ (by omega)
        rw [Nat.add_mul, Nat.one_mul] at h1
        have hm : v % P = v - P := by
          rw [Nat.mod_eq_sub_mod (by omega), Nat.mod_eq_of_lt (by omega)]
        rw [if_neg (fun h => hb h.2), if_neg hlo, if_pos (by omega), hm, Nat.add_mul, Nat.one_mul]
        omega
theorem sp_cut_le (mode : Nat) (neg : Bool) (m n : Nat) (more : Bool) : sp_cut mode neg m n more ≤ m / 2 ^ n + 1 := by
  unfold sp_cut
  split
  · rename_i h; subst h; rw [Nat.pow_zero, Nat.div_one]; omega
  · have := Bool.toNat_le (sp_up mode neg (decide (m / 2 ^ n % 2 = 1)) (decide (m / 2 ^ (n - 1) % 2 = 1)) (decide (m % 2 ^ (n - 1) ≠ 0) || more))
    omega
theorem sp_cut_ge (mode : Nat) (neg : Bool) (m n : Nat) (more : Bool) : m / 2 ^ n ≤ sp_cut mode neg m n more := by
  unfold sp_cut
  split
  · rename_i h; subst h; rw [Nat.pow_zero, Nat.div_one]; omega
  · omega
theorem sp_at_hi (e s mode : Nat) (neg : Bool) {m : Nat} (hm : m ≠ 0) (p : Int) (more : Bool) (hs : 1 ≤ s) : sp_at mode neg m p (sp_unit e s m p) more ≤ 2 * 2 ^ (s - 1) := by
  obtain ⟨h1, h2⟩ := (Nat.log2_eq_iff hm).mp rfl
  have hu : p + m.log2 - (s - 1 : Nat) ≤ sp_unit e s m p := by
    unfold sp_unit
    split <;> omega
  generalize sp_unit e s m p = u at hu
  have e2 : 2 * 2 ^ (s - 1) = 2 ^ s := by rw [Nat.mul_comm, ← Nat.pow_succ, show (s - 1).succ = s by omega]
  rw [e2]
  unfold sp_at
  split
  · refine Nat.le_trans (sp_cut_le _ _ _ _ _) ?_
    have : m / 2 ^ (u - p).toNat < 2 ^ s := by
      rw [Nat.div_lt_iff_lt_mul (Nat.pow_pos (by decide)), ← Nat.pow_add]
      exact Nat.lt_of_lt_of_le h2 (Nat.pow_le_pow_right (by decide) (by omega))
    omega
  · have h3 : m * 2 ^ (p - u).toNat ≤ 2 ^ (m.log2 + 1) * 2 ^ (p - u).toNat := Nat.mul_le_mul_right _ (by omega)
    rw [← Nat.pow_add] at h3
    exact Nat.le_trans h3 (Nat.pow_le_pow_right (by decide) (by omega))
theorem sp_at_lo (e s mode : Nat) (neg : Bool) {m : Nat} (hm : m ≠ 0) (p : Int) (more : Bool) (h : sp_at mode neg m p (sp_unit e s m p) more < 2 ^ (s - 1)) : sp_unit e s m p = sp_least e s := by
  obtain ⟨h1, h2⟩ := (Nat.log2_eq_iff hm).mp rfl
  refine Classical.byContradiction fun hn => ?_
  have hu : sp_unit e s m p = p + m.log2 - (s - 1 : Nat) := by
    unfold sp_unit at hn ⊢
    split
    · rename_i hq; rw [if_pos hq] at hn; exact absurd rfl hn
    · rfl
  rw [hu] at h
  unfold sp_at at h
  split at h
  · have h3 := sp_cut_ge mode neg m (p + m.log2 - (s - 1 : Nat) - p).toNat more
    have h4 : 2 ^ (s - 1) ≤ m / 2 ^ (p + m.log2 - (s - 1 : Nat) - p).toNat := by
      rw [Nat.le_div_iff_mul_le (Nat.pow_pos (by decide)), ← Nat.pow_add]
      exact Nat.le_trans (Nat.pow_le_pow_right (by decide) (by omega)) h1
    omega
  · have h3 : 2 ^ m.log2 * 2 ^ (p - (p + m.log2 - (s - 1 : Nat))).toNat ≤ m * 2 ^ (p - (p + m.log2 - (s - 1 : Nat))).toNat := Nat.mul_le_mul_right _ h1
    rw [← Nat.pow_add] at h3
    have h4 : 2 ^ (s - 1) ≤ 2 ^ (m.log2 + (p - (p + m.log2 - (s - 1 : Nat))).toNat) := Nat.pow_le_pow_right (by decide) (by omega)
    omega
end
