/-! PURE: the machine's shifts on longs, by their bits -/
def fc_shl (x : Int64) (k : Int32) : Int64 := x <<< (k.toInt64 &&& 63)
def fc_ushr (x : Int64) (k : Int32) : Int64 := (x.toUInt64 >>> (k.toInt64.toUInt64 &&& Int64.toUInt64 63)).toInt64
def fc_shr (x : Int64) (k : Int32) : Int64 := x >>> (k.toInt64 &&& 63)
def fc_ishl (x k : Int32) : Int32 := x <<< (k &&& 31)
def fc_iushr (x k : Int32) : Int32 := (x.toUInt32 >>> (k.toUInt32 &&& Int32.toUInt32 31)).toInt32
theorem fc_k63 : ∀ n, n < 64 → (((nI n).toInt64 &&& 63).toBitVec.smod 64).toNat = n := by decide +kernel
theorem fc_k63u : ∀ n, n < 64 → (((nI n).toInt64.toUInt64 &&& Int64.toUInt64 63).toBitVec % 64).toNat = n := by decide +kernel
theorem fc_shl_bv (x : Int64) {n : Nat} (hn : n < 64) : (fc_shl x (nI n)).toBitVec = x.toBitVec <<< n := by
  unfold fc_shl
  rw [Int64.toBitVec_shiftLeft]
  show x.toBitVec <<< (((nI n).toInt64 &&& 63).toBitVec.smod 64).toNat = _
  rw [fc_k63 n hn]
theorem fc_ushr_bv (x : Int64) {n : Nat} (hn : n < 64) : (fc_ushr x (nI n)).toBitVec = x.toBitVec >>> n := by
  show x.toBitVec >>> (((nI n).toInt64.toUInt64 &&& Int64.toUInt64 63).toBitVec % 64) = _
  rw [BitVec.ushiftRight_eq', fc_k63u n hn]
theorem fc_shr_bv (x : Int64) {n : Nat} (hn : n < 64) : (fc_shr x (nI n)).toBitVec = x.toBitVec.sshiftRight n := by
  unfold fc_shr
  rw [Int64.toBitVec_shiftRight]
  show x.toBitVec.sshiftRight (((nI n).toInt64 &&& 63).toBitVec.smod 64).toNat = _
  rw [fc_k63 n hn]
theorem fc_pw : ∀ k, k < 6 → fc_ishl 1 (nI k) = nI (2 ^ k) := by decide +kernel
theorem fc_pw64 {k : Nat} (h : k < 6) : 2 ^ k < 64 := Nat.pow_lt_pow_right (a := 2) (by decide) h
/-- bit i of a long -/
def fc_b (x : Int64) (i : Nat) : Bool := x.toBitVec.getLsbD i
theorem fc_ext {x y : Int64} (h : ∀ i, i < 64 → fc_b x i = fc_b y i) : x = y := Int64.toBitVec.inj (BitVec.eq_of_getLsbD_eq (fun i hi => h i hi))
theorem fc_b_or (x y : Int64) (i : Nat) : fc_b (x ||| y) i = (fc_b x i || fc_b y i) := by unfold fc_b; rw [Int64.toBitVec_or, BitVec.getLsbD_or]
theorem fc_b_and (x y : Int64) (i : Nat) : fc_b (x &&& y) i = (fc_b x i && fc_b y i) := by unfold fc_b; rw [Int64.toBitVec_and, BitVec.getLsbD_and]
theorem fc_b_xor (x y : Int64) (i : Nat) : fc_b (x ^^^ y) i = (fc_b x i ^^ fc_b y i) := by unfold fc_b; rw [Int64.toBitVec_xor, BitVec.getLsbD_xor]
theorem fc_b_big {x : Int64} {i : Nat} (h : 64 ≤ i) : fc_b x i = false := BitVec.getLsbD_of_ge _ _ h
theorem fc_b_m1 : ∀ i, i < 64 → fc_b (-1) i = true := by decide +kernel
theorem fc_b_0 (i : Nat) : fc_b 0 i = false := BitVec.getLsbD_zero
theorem fc_b_1 : ∀ i, i < 64 → fc_b 1 i = decide (i = 0) := by decide +kernel
theorem fc_b_shl (x : Int64) {n : Nat} (hn : n < 64) {i : Nat} (hi : i < 64) : fc_b (fc_shl x (nI n)) i = (decide (n ≤ i) && fc_b x (i - n)) := by
  unfold fc_b
  rw [fc_shl_bv x hn, BitVec.getLsbD_shiftLeft]
  rcases Nat.lt_or_ge i n with h | h
  · simp [h, Nat.not_le.mpr h]
  · simp [hi, h, Nat.not_lt.mpr h]
theorem fc_b_ushr (x : Int64) {n : Nat} (hn : n < 64) (i : Nat) : fc_b (fc_ushr x (nI n)) i = fc_b x (n + i) := by
  unfold fc_b
  rw [fc_ushr_bv x hn, BitVec.getLsbD_ushiftRight]
theorem fc_b_shr63 (x : Int64) {i : Nat} (hi : i < 64) : fc_b (fc_shr x 63) i = fc_b x 63 := by
  unfold fc_b
  rw [show (63 : Int32) = nI 63 from rfl, fc_shr_bv x (by omega), BitVec.getLsbD_sshiftRight, BitVec.msb_eq_getLsbD_last]
  rcases Nat.eq_zero_or_pos i with h | h
  · subst h; simp
  · rw [if_neg (by omega)]; simp [hi]
theorem fc_xm1 (x : Int64) : x ^^^ (-1) = ~~~x := by
  apply fc_ext; intro i hi
  rw [fc_b_xor, fc_b_m1 i hi]
  show _ = (~~~x).toBitVec.getLsbD i
  rw [Int64.toBitVec_not, BitVec.getLsbD_not]
  simp [hi, fc_b]
/-! PURE: the gates, as the class has them -/
def fg_ones (k : Int32) : Int64 := fc_shl (-1) k ^^^ (-1)
def fg_fan (b : Int64) : Int64 := fc_shr (fc_shl b 63) 63
def fg_choose (b x y : Int64) : Int64 := (x &&& fg_fan b) ||| (y &&& (fg_fan b ^^^ (-1)))
def fg_any_it (w : Int64) : Nat → Int64
  | 0 => w
  | k + 1 => fg_any_it w k ||| fc_ushr (fg_any_it w k) (fc_ishl 1 (nI k))
def fg_any (w : Int64) : Int64 := fg_any_it w 6 &&& 1
def fg_neg (w : Int64) : Int64 := fc_ushr w 63
def fg_add_it (a b c : Int64) : Nat → Int64 × Int64
  | 0 => ((a &&& b) ||| ((a ^^^ b) &&& c), a ^^^ b)
  | k + 1 => ((fg_add_it a b c k).1 ||| ((fg_add_it a b c k).2 &&& fc_shl (fg_add_it a b c k).1 (fc_ishl 1 (nI k))), (fg_add_it a b c k).2 &&& fc_shl (fg_add_it a b c k).2 (fc_ishl 1 (nI k)))
def fg_add (a b c : Int64) : Int64 := ((a ^^^ b) ^^^ fc_shl (fg_add_it a b c 6).1 1) ^^^ c
def fg_sum (a b : Int64) : Int64 := fg_add a b 0
def fg_diff (a b : Int64) : Int64 := fg_add a (b ^^^ (-1)) 1
def fg_negif (bit w : Int64) : Int64 := fg_add (w ^^^ fg_fan bit) 0 bit
def fg_below (a b : Int64) : Int64 := fg_neg (fg_diff a b)
def fg_sl_it (w p : Int64) : Nat → Int64
  | 0 => w
  | k + 1 => fg_choose (fc_ushr p (nI k)) (fc_shl (fg_sl_it w p k) (fc_ishl 1 (nI k))) (fg_sl_it w p k)
def fg_sl (w p : Int64) : Int64 := fg_sl_it w p 6
def fg_sr_it (w p : Int64) : Nat → Int64
  | 0 => w
  | k + 1 => fg_choose (fc_ushr p (nI k)) (fc_ushr (fg_sr_it w p k) (fc_ishl 1 (nI k)) ||| fg_any (fg_sr_it w p k &&& fg_ones (fc_ishl 1 (nI k)))) (fg_sr_it w p k)
def fg_sr (w p : Int64) : Int64 := fg_sr_it w p 6
def fg_top_it : Nat → Int64 → Int64 → Int64
  | 0, num, _ => num
  | n + 1, num, rest => fg_top_it n (num ||| fc_shl (fg_any (fc_ushr rest (fc_ishl 1 (nI n)))) (nI n)) (fg_choose (fg_any (fc_ushr rest (fc_ishl 1 (nI n)))) (fc_ushr rest (fc_ishl 1 (nI n))) rest)
def fg_top (w : Int64) : Int64 := fg_top_it 6 0 w
def fg_prod_it (a b : Int64) : Nat → Int64
  | 0 => 0
  | k + 1 => fg_sum (fg_prod_it a b k) (fc_shl a (nI k) &&& fg_fan (fc_ushr b (nI k)))
def fg_quo_r (a rest : Int64) (n : Nat) : Int64 := fc_shl rest 1 ||| (fc_ushr a (nI n) &&& 1)
def fg_quo_f (less : Int64) : Int64 := fg_neg less ^^^ 1
def fg_quo_it (a b : Int64) : Nat → Int64 → Int64 → Int64 × Int64
  | 0, ans, rest => (ans, rest)
  | n + 1, ans, rest => fg_quo_it a b n (fc_shl ans 1 ||| fg_quo_f (fg_diff (fg_quo_r a rest n) b)) (fg_choose (fg_quo_f (fg_diff (fg_quo_r a rest n) b)) (fg_diff (fg_quo_r a rest n) b) (fg_quo_r a rest n))
def fg_quo (a b : Int64) (n : Nat) : Int64 := fc_shl (fg_quo_it a b n 0 0).1 1 ||| fg_any (fg_quo_it a b n 0 0).2
def fg_root_r (a rest : Int64) (n : Nat) : Int64 := fc_shl rest 2 ||| (fc_ushr a (2 * nI n) &&& 3)
def fg_root_l (ans r : Int64) : Int64 := fg_diff r (fc_shl ans 2 ||| 1)
def fg_root_it (a : Int64) : Nat → Int64 → Int64 → Int64 × Int64
  | 0, ans, rest => (ans, rest)
  | n + 1, ans, rest => fg_root_it a n (fc_shl ans 1 ||| fg_quo_f (fg_root_l ans (fg_root_r a rest n))) (fg_choose (fg_quo_f (fg_root_l ans (fg_root_r a rest n))) (fg_root_l ans (fg_root_r a rest n)) (fg_root_r a rest n))
def fg_root (a : Int64) (n : Nat) : Int64 := fc_shl (fg_root_it a n 0 0).1 1 ||| fg_any (fg_root_it a n 0 0).2
/-! PURE: what the gates answer -/
theorem fg_fan_b (b : Int64) {i : Nat} (hi : i < 64) : fc_b (fg_fan b) i = fc_b b 0 := by
  unfold fg_fan
  rw [fc_b_shr63 _ hi, show (63 : Int32) = nI 63 from rfl, fc_b_shl b (by omega) (by omega)]
  simp
theorem fg_choose_eq (b x y : Int64) : fg_choose b x y = if fc_b b 0 = true then x else y := by
  apply fc_ext; intro i hi
  unfold fg_choose
  rw [fc_b_or, fc_b_and, fc_b_and, fc_b_xor, fc_b_m1 i hi, fg_fan_b b hi]
  cases fc_b b 0 <;> simp
theorem fg_any_b (w : Int64) : ∀ k, k ≤ 6 → ∀ i, (fc_b (fg_any_it w k) i = true ↔ ∃ j, i ≤ j ∧ j < i + 2 ^ k ∧ fc_b w j = true) := by
  intro k
  induction k with
  | zero =>
    intro _ i
    constructor
    · intro h; exact ⟨i, Nat.le_refl _, by simp, h⟩
    · rintro ⟨j, h1, h2, h3⟩
      have : j = i := by simp at h2; omega
      subst this; exact h3
  | succ k ih =>
    intro hk i
    have hk6 : k < 6 := by omega
    unfold fg_any_it
    rw [fc_b_or, fc_pw k hk6, fc_b_ushr _ (fc_pw64 hk6), Bool.or_eq_true, ih (by omega) i, ih (by omega) (2 ^ k + i)]
    have e : 2 ^ (k + 1) = 2 ^ k + 2 ^ k := by rw [Nat.pow_succ]; omega
    constructor
    · rintro (⟨j, h1, h2, h3⟩ | ⟨j, h1, h2, h3⟩)
      · exact ⟨j, h1, by omega, h3⟩
      · exact ⟨j, by omega, by omega, h3⟩
    · rintro ⟨j, h1, h2, h3⟩
      rcases Nat.lt_or_ge j (i + 2 ^ k) with h | h
      · exact Or.inl ⟨j, h1, h, h3⟩
      · exact Or.inr ⟨j, by omega, by omega, h3⟩
theorem fg_any_eq (w : Int64) : fg_any w = if w = 0 then 0 else 1 := by
  apply fc_ext; intro i hi
  unfold fg_any
  rw [fc_b_and, fc_b_1 i hi]
  by_cases hw : w = 0
  · subst hw
    rw [if_pos rfl, fc_b_0]
    have : fc_b (fg_any_it 0 6) i = false := by
      cases h : fc_b (fg_any_it 0 6) i with
      | false => rfl
      | true =>
        obtain ⟨j, -, -, h3⟩ := (fg_any_b 0 6 (Nat.le_refl _) i).mp h
        rw [fc_b_0] at h3; cases h3
    rw [this]; rfl
  · rw [if_neg hw, fc_b_1 i hi]
    rcases Nat.eq_zero_or_pos i with h | h
    · subst h
      have : fc_b (fg_any_it w 6) 0 = true := by
        refine (fg_any_b w 6 (Nat.le_refl _) 0).mpr ?_
        refine Classical.byContradiction fun hn => hw ?_
        apply fc_ext; intro j hj
        rw [fc_b_0]
        cases h3 : fc_b w j with
        | false => rfl
        | true => exact absurd ⟨j, Nat.zero_le _, by simpa using hj, h3⟩ hn
      rw [this]; rfl
    · have : decide (i = 0) = false := decide_eq_false (by omega)
      rw [this]; simp
/-- Kogge and Stone: behind k stages the carries are those of windows of 2^k wires -/
theorem fg_add_inv (a b : Int64) (c : Bool) : ∀ k, k ≤ 6 → ∀ i, i < 64 →
    (i + 1 ≤ 2 ^ k → BitVec.carry (i + 1) a.toBitVec b.toBitVec c = fc_b (fg_add_it a b (if c then 1 else 0) k).1 i) ∧
    (2 ^ k < i + 1 → BitVec.carry (i + 1) a.toBitVec b.toBitVec c = (fc_b (fg_add_it a b (if c then 1 else 0) k).1 i || (fc_b (fg_add_it a b (if c then 1 else 0) k).2 i && BitVec.carry (i + 1 - 2 ^ k) a.toBitVec b.toBitVec c))) := by
  intro k
  induction k with
  | zero =>
    intro _ i hi
    have e0 : fc_b (fg_add_it a b (if c then 1 else 0) 0).1 i = ((fc_b a i && fc_b b i) || ((fc_b a i ^^ fc_b b i) && fc_b (if c then (1 : Int64) else 0) i)) := by
      show fc_b ((a &&& b) ||| ((a ^^^ b) &&& (if c then (1 : Int64) else 0))) i = _
      rw [fc_b_or, fc_b_and, fc_b_and, fc_b_xor]
    have e1 : fc_b (fg_add_it a b (if c then 1 else 0) 0).2 i = (fc_b a i ^^ fc_b b i) := by
      show fc_b (a ^^^ b) i = _
      rw [fc_b_xor]
    have ec : fc_b (if c then (1 : Int64) else 0) i = (c && decide (i = 0)) := by
      cases c
      · show fc_b 0 i = _; rw [fc_b_0]; rfl
      · show fc_b 1 i = _; rw [fc_b_1 i hi]; rfl
    rw [e0, e1, ec, BitVec.carry_succ]
    constructor
    · intro h
      have : i = 0 := by simp at h; omega
      subst this
      rw [BitVec.carry_zero]
      show Bool.atLeastTwo (fc_b a 0) (fc_b b 0) c = _
      cases fc_b a 0 <;> cases fc_b b 0 <;> cases c <;> rfl
    · intro h
      have hi0 : decide (i = 0) = false := decide_eq_false (by simp at h; omega)
      rw [hi0, show i + 1 - 2 ^ 0 = i by simp]
      show Bool.atLeastTwo (fc_b a i) (fc_b b i) _ = _
      cases fc_b a i <;> cases fc_b b i <;> cases c <;> cases BitVec.carry i a.toBitVec b.toBitVec _ <;> rfl
  | succ k ih =>
    intro hk i hi
    have hk6 : k < 6 := by omega
    have e : 2 ^ (k + 1) = 2 ^ k + 2 ^ k := by rw [Nat.pow_succ]; omega
    have hp : 0 < 2 ^ k := Nat.pow_pos (by decide)
    have IH := ih (by omega)
    have c1 : fc_b (fg_add_it a b (if c then 1 else 0) (k + 1)).1 i = (fc_b (fg_add_it a b (if c then 1 else 0) k).1 i || (fc_b (fg_add_it a b (if c then 1 else 0) k).2 i && (decide (2 ^ k ≤ i) && fc_b (fg_add_it a b (if c then 1 else 0) k).1 (i - 2 ^ k)))) := by
      show fc_b ((fg_add_it a b (if c then 1 else 0) k).1 ||| ((fg_add_it a b (if c then 1 else 0) k).2 &&& fc_shl (fg_add_it a b (if c then 1 else 0) k).1 (fc_ishl 1 (nI k)))) i = _
      rw [fc_b_or, fc_b_and, fc_pw k hk6, fc_b_shl _ (fc_pw64 hk6) hi]
    have c2 : fc_b (fg_add_it a b (if c then 1 else 0) (k + 1)).2 i = (fc_b (fg_add_it a b (if c then 1 else 0) k).2 i && (decide (2 ^ k ≤ i) && fc_b (fg_add_it a b (if c then 1 else 0) k).2 (i - 2 ^ k))) := by
      show fc_b ((fg_add_it a b (if c then 1 else 0) k).2 &&& fc_shl (fg_add_it a b (if c then 1 else 0) k).2 (fc_ishl 1 (nI k))) i = _
      rw [fc_b_and, fc_pw k hk6, fc_b_shl _ (fc_pw64 hk6) hi]
    rcases Nat.lt_or_ge i (2 ^ k) with h | h
    · have hd : decide (2 ^ k ≤ i) = false := decide_eq_false (by omega)
      refine ⟨fun _ => ?_, fun h2 => absurd h2 (by omega)⟩
      rw [c1, hd, (IH i hi).1 (by omega)]
      simp
    · have hd : decide (2 ^ k ≤ i) = true := decide_eq_true h
      have h0 : BitVec.carry (i + 1) a.toBitVec b.toBitVec c = (fc_b (fg_add_it a b (if c then 1 else 0) k).1 i || (fc_b (fg_add_it a b (if c then 1 else 0) k).2 i && BitVec.carry (i - 2 ^ k + 1) a.toBitVec b.toBitVec c)) := by
        rcases Nat.lt_or_ge (2 ^ k) (i + 1) with h1 | h1
        · rw [(IH i hi).2 h1, show i + 1 - 2 ^ k = i - 2 ^ k + 1 by omega]
        · omega
      constructor
      · intro h2
        rw [h0, (IH (i - 2 ^ k) (by omega)).1 (by omega), c1, hd, Bool.true_and]
      · intro h2
        rw [h0, (IH (i - 2 ^ k) (by omega)).2 (by omega), c1, c2, hd, Bool.true_and, Bool.true_and, show i - 2 ^ k + 1 - 2 ^ k = i + 1 - 2 ^ (k + 1) by omega]
        cases fc_b (fg_add_it a b (if c then 1 else 0) k).1 i <;> cases fc_b (fg_add_it a b (if c then 1 else 0) k).2 i <;> simp
theorem fg_add_eq (a b : Int64) (c : Bool) : fg_add a b (if c then 1 else 0) = a + b + (if c then 1 else 0) := by
  apply fc_ext; intro i hi
  have hR : fc_b (a + b + (if c then 1 else 0)) i = (fc_b a i ^^ (fc_b b i ^^ BitVec.carry i a.toBitVec b.toBitVec c)) := by
    have e : (if c then (1 : Int64) else 0).toBitVec = BitVec.setWidth 64 (BitVec.ofBool c) := by cases c <;> rfl
    unfold fc_b
    rw [Int64.toBitVec_add, Int64.toBitVec_add, e, BitVec.getLsbD_add_add_bool hi]
  have hc : fc_b (if c then (1 : Int64) else 0) i = (c && decide (i = 0)) := by
    cases c
    · show fc_b 0 i = _; rw [fc_b_0]; rfl
    · show fc_b 1 i = _; rw [fc_b_1 i hi]; rfl
  rw [hR]
  unfold fg_add
  rw [fc_b_xor, fc_b_xor, fc_b_xor, show (1 : Int32) = nI 1 from rfl, fc_b_shl _ (by omega) hi, hc]
  rcases Nat.eq_zero_or_pos i with h | h
  · subst h
    rw [BitVec.carry_zero]
    cases fc_b a 0 <;> cases fc_b b 0 <;> cases c <;> rfl
  · have h1 : decide (1 ≤ i) = true := decide_eq_true h
    have h2 : decide (i = 0) = false := decide_eq_false (by omega)
    have h3 := (fg_add_inv a b c 6 (Nat.le_refl _) (i - 1) (by omega)).1 (by show i - 1 + 1 ≤ 64; omega)
    rw [show i - 1 + 1 = i by omega] at h3
    rw [h1, h2, h3]
    cases fc_b a i <;> cases fc_b b i <;> cases c <;> simp
theorem fg_sum_eq (a b : Int64) : fg_sum a b = a + b := by
  have h := fg_add_eq a b false
  unfold fg_sum
  simpa using h
theorem fg_diff_eq (a b : Int64) : fg_diff a b = a - b := by
  have h := fg_add_eq a (b ^^^ (-1)) true
  unfold fg_diff
  rw [show fg_add a (b ^^^ (-1)) 1 = a + (b ^^^ (-1)) + 1 from h, fc_xm1]
  apply Int64.toBitVec.inj
  rw [Int64.toBitVec_add, Int64.toBitVec_add, Int64.toBitVec_not, Int64.toBitVec_sub, BitVec.sub_eq_add_neg, BitVec.neg_eq_not_add, BitVec.add_assoc]
  rfl
theorem fg_negif0 (w : Int64) : fg_negif 0 w = w := by
  have h := fg_add_eq (w ^^^ fg_fan 0) 0 false
  unfold fg_negif
  rw [show fg_add (w ^^^ fg_fan 0) 0 0 = (w ^^^ fg_fan 0) + 0 + 0 from h, show fg_fan 0 = 0 by decide +kernel]
  simp
theorem fg_negif1 (w : Int64) : fg_negif 1 w = -w := by
  have h := fg_add_eq (w ^^^ fg_fan 1) 0 true
  unfold fg_negif
  rw [show fg_add (w ^^^ fg_fan 1) 0 1 = (w ^^^ fg_fan 1) + 0 + 1 from h, show fg_fan 1 = -1 by decide +kernel, fc_xm1]
  apply Int64.toBitVec.inj
  rw [Int64.toBitVec_add, Int64.toBitVec_add, Int64.toBitVec_not, Int64.toBitVec_neg, BitVec.neg_eq_not_add]
  show ~~~w.toBitVec + 0#64 + 1#64 = _
  rw [BitVec.add_zero]
theorem fg_neg_eq (w : Int64) : fg_neg w = if w < 0 then 1 else 0 := by
  have hm : (w < 0) ↔ fc_b w 63 = true := by
    have h1 : w.toBitVec.msb = decide (w.toBitVec.toInt < 0) := BitVec.msb_eq_toInt
    have h2 : w.toBitVec.msb = fc_b w 63 := BitVec.msb_eq_getLsbD_last _
    rw [← h2, h1, decide_eq_true_iff, Int64.lt_iff_toInt_lt]
    exact Iff.rfl
  apply fc_ext; intro i hi
  unfold fg_neg
  rw [show (63 : Int32) = nI 63 from rfl, fc_b_ushr w (by omega)]
  rcases Nat.eq_zero_or_pos i with h | h
  · subst h
    by_cases hw : w < 0
    · rw [if_pos hw, fc_b_1 0 (by omega), hm.mp hw]; rfl
    · rw [if_neg hw, fc_b_0]
      cases h2 : fc_b w (63 + 0) with
      | false => rfl
      | true => exact absurd (hm.mpr h2) hw
  · rw [fc_b_big (by omega)]
    by_cases hw : w < 0
    · rw [if_pos hw, fc_b_1 i hi, decide_eq_false (by omega)]
    · rw [if_neg hw, fc_b_0]
