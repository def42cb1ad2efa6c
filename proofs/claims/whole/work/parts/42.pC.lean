/-! PURE: the class's reads of a FLOAT, and the reference's -/
theorem fc_k31u : ∀ n, n < 32 → (((nI n).toUInt32 &&& Int32.toUInt32 31).toBitVec % 32).toNat = n := by decide +kernel
theorem fc_iushr_nI {X k : Nat} (hX : X < 2 ^ 31) (hk : k < 32) : fc_iushr (nI X) (nI k) = nI (X / 2 ^ k) := by
  apply Int32.toBitVec.inj
  show (nI X).toBitVec >>> (((nI k).toUInt32 &&& Int32.toUInt32 31).toBitVec % 32) = _
  rw [BitVec.ushiftRight_eq', fc_k31u k hk]
  apply BitVec.eq_of_toNat_eq
  rw [BitVec.toNat_ushiftRight, Nat.shiftRight_eq_div_pow]
  show (BitVec.ofNat 32 X).toNat / 2 ^ k = (BitVec.ofNat 32 (X / 2 ^ k)).toNat
  rw [BitVec.toNat_ofNat, BitVec.toNat_ofNat, Nat.mod_eq_of_lt (by omega), Nat.mod_eq_of_lt]
  exact Nat.lt_of_le_of_lt (Nat.div_le_self _ _) (by omega)
theorem fc_nI_and {a b : Nat} (ha : a < 2 ^ 31) (hb : b < 2 ^ 31) : (nI a &&& nI b).toInt64 = lN a &&& lN b := by
  rw [Int32.toInt64_and, nI_l ha, nI_l hb]
theorem lN_mask {a n : Nat} (ha : a < 2 ^ 64) (hn : n < 64) : lN a &&& lN (2 ^ n - 1) = lN (a % 2 ^ n) := by
  rw [← fg_ones_eq hn]
  exact fc_lN_mask ha hn
theorem fc_bit_1 (c : Bool) : (fc_bit c = 1) ↔ c = true := by cases c <;> decide
theorem fc_bit_0 (c : Bool) : (fc_bit c = 0) ↔ c = false := by cases c <;> decide
theorem fc_bit_lN (c : Bool) : fc_bit c = lN c.toNat := by cases c <;> rfl
theorem ite_b (b : Bool) : (if b = true then true else false) = b := by cases b <;> rfl
theorem ite_d (c : Prop) [Decidable c] : (if c then true else false) = decide c := by by_cases h : c <;> simp [h]
theorem ite_c0 {α : Type} (x y : Int64) (a b : α) : (if lg_cmp x y = 0 then a else b) = if x = y then a else b := by
  by_cases h : x = y
  · rw [if_pos h, if_pos ((cmp_0 x y).mpr h)]
  · rw [if_neg h, if_neg (fun q => h ((cmp_0 x y).mp q))]
theorem ite_clt {α : Type} (x y : Int64) (a b : α) : (if lg_cmp x y < 0 then a else b) = if x < y then a else b := by
  by_cases h : x < y
  · rw [if_pos h, if_pos ((cmp_lt x y).mpr h)]
  · rw [if_neg h, if_neg (fun q => h ((cmp_lt x y).mp q))]
theorem ite_cgt {α : Type} (x y : Int64) (a b : α) : (if 0 < lg_cmp x y then a else b) = if y < x then a else b := by
  by_cases h : y < x
  · rw [if_pos h, if_pos ((cmp_gt x y).mpr h)]
  · rw [if_neg h, if_neg (fun q => h ((cmp_gt x y).mp q))]
theorem ite_cle {α : Type} (x y : Int64) (a b : α) : (if lg_cmp x y ≤ 0 then a else b) = if y < x then b else a := by
  by_cases h : y < x
  · rw [if_pos h, if_neg (fun q => (cmp_le x y).mp q h)]
  · rw [if_neg h, if_pos ((cmp_le x y).mpr h)]
theorem ite_cge {α : Type} (x y : Int64) (a b : α) : (if 0 ≤ lg_cmp x y then a else b) = if x < y then b else a := by
  by_cases h : x < y
  · rw [if_pos h, if_neg (fun q => (cmp_ge x y).mp q h)]
  · rw [if_neg h, if_pos ((cmp_ge x y).mpr h)]
theorem ite_jb {α : Type} (c : Bool) (a b : α) : (if jb c = 0 then a else b) = if c = true then b else a := by cases c <;> rfl
theorem ite_b1 {α : Type} (c : Bool) (a b : α) : (if fc_bit c = 1 then a else b) = if c = true then a else b := by cases c <;> rfl
theorem ite_b0 {α : Type} (c : Bool) (a b : α) : (if fc_bit c = 0 then a else b) = if c = true then b else a := by cases c <;> rfl
theorem ite_dt {α : Type} (c : Prop) [Decidable c] (a b : α) : (if decide c = true then a else b) = if c then a else b := by by_cases h : c <;> simp [h]
theorem ite_f {α : Type} (a b : α) : (if false = true then a else b) = b := rfl
theorem ite_t {α : Type} (a b : α) : (if true = true then a else b) = a := rfl
theorem ite_n0 {α : Type} {n : Nat} (h : n < 2 ^ 62) (a b : α) : (if lg_cmp (lN n) 0 = 0 then a else b) = if n = 0 then a else b := by
  rw [ite_c0]
  by_cases h0 : n = 0
  · rw [if_pos h0, if_pos (by rw [h0]; rfl)]
  · rw [if_neg h0, if_neg (fun q : lN n = 0 => h0 ((fc_lN_eq (a := n) (b := 0) (by omega) (by omega)).mp q))]
theorem ishl_ok {e s : Nat} (ok : fw_ok e s) : fc_ishl 1 (nI (e + s)) - 1 = nI (2 ^ (e + s) - 1) := ok_cases (P := fun e s => fc_ishl 1 (nI (e + s)) - 1 = nI (2 ^ (e + s) - 1)) (by decide +kernel) ok
theorem w_lt {e s X : Nat} (ok : fw_ok e s) (hX : X < 2 ^ (e + s)) : X < 65536 := by
  have := b_ok ok
  omega
theorem holds_nI {e s X : Nat} (ok : fw_ok e s) (hX : X < 2 ^ (e + s)) : fm_X0_holds (fm_X0_init_0 (nI e) (nI s)) (fm_X0_init_1 (nI e) (nI s)) (fm_X0_init_2 (nI e) (nI s)) (fm_X0_init_3 (nI e) (nI s)) (fm_X0_init_4 (nI e) (nI s)) (fm_X0_init_5 (nI e) (nI s)) (nI X) = true := by
  have hw := w_lt ok hX
  have hb := b_ok ok
  unfold fm_X0_holds fm_X5_isWithin
  rw [c0_ok ok, ishl_ok ok, if_neg (nI_pos (by omega)), if_neg (nI_nlt (by omega) (by omega))]
theorem holds_of {e s : Nat} (ok : fw_ok e s) {x : Int32} (h : fm_X0_holds (fm_X0_init_0 (nI e) (nI s)) (fm_X0_init_1 (nI e) (nI s)) (fm_X0_init_2 (nI e) (nI s)) (fm_X0_init_3 (nI e) (nI s)) (fm_X0_init_4 (nI e) (nI s)) (fm_X0_init_5 (nI e) (nI s)) x = true) : ∃ X : Nat, X < 2 ^ (e + s) ∧ x = nI X := by
  have hb := b_ok ok
  unfold fm_X0_holds fm_X5_isWithin at h
  rw [c0_ok ok, ishl_ok ok] at h
  split at h
  · cases h
  · rename_i h1
    split at h
    · cases h
    · rename_i h2
      obtain ⟨j, h3, h4⟩ := nI_of2 (n := 2 ^ (e + s) - 1) (nI_toInt (by omega)) h1 (Int32.not_lt.mp h2)
      exact ⟨j, by omega, h4⟩
theorem isFloat_eq {e s : Nat} (ok : fw_ok e s) (a0 : Int32) (a1 : Int32) (a2 : Bool) (a3 : Int64) (a4 : Int32) (a5 : Bool) (a6 : Bool) (x : Int32) : fm_X6_isFloat a0 a1 a2 a3 a4 a5 a6 x (nI (1000 + 100 * e + s)) = fm_X0_holds (fm_X0_init_0 (nI e) (nI s)) (fm_X0_init_1 (nI e) (nI s)) (fm_X0_init_2 (nI e) (nI s)) (fm_X0_init_3 (nI e) (nI s)) (fm_X0_init_4 (nI e) (nI s)) (fm_X0_init_5 (nI e) (nI s)) x := by
  have hb := b_ok ok
  unfold fm_X6_isFloat
  rw [mw_ok ok, mm_ok (by have := ok.2.1; have := ok.2.2.2; omega), ite_cgt]
  cases hh : fm_X0_holds (fm_X0_init_0 (nI e) (nI s)) (fm_X0_init_1 (nI e) (nI s)) (fm_X0_init_2 (nI e) (nI s)) (fm_X0_init_3 (nI e) (nI s)) (fm_X0_init_4 (nI e) (nI s)) (fm_X0_init_5 (nI e) (nI s)) x with
  | true =>
    obtain ⟨X, hX, rfl⟩ := holds_of ok hh
    have hw := w_lt ok hX
    rw [if_neg (nI_pos (by omega)), nI_l (by omega), if_neg]
    rw [lN_lt (by omega) (by omega)]
    omega
  | false =>
    split
    · rfl
    · rename_i h1
      split
      · rfl
      · rename_i h2
        exfalso
        obtain ⟨j, h3, rfl⟩ := nI_of h1
        rw [nI_l h3, lN_lt (by omega) h3] at h2
        rw [holds_nI ok (by omega)] at hh
        cases hh
theorem unsigned_nI {e s X : Nat} (ok : fw_ok e s) (hX : X < 2 ^ (e + s)) : fm_X0_unsigned (fm_X0_init_0 (nI e) (nI s)) (fm_X0_init_1 (nI e) (nI s)) (fm_X0_init_2 (nI e) (nI s)) (fm_X0_init_3 (nI e) (nI s)) (fm_X0_init_4 (nI e) (nI s)) (fm_X0_init_5 (nI e) (nI s)) (nI X) = lN (dx_mag e s X) := by
  have hw := w_lt ok hX
  have hb := b_ok ok
  have h1 := ok.2.1
  have h2 := ok.2.2.2
  unfold fm_X0_unsigned
  rw [c2_ok ok, show (1 : Int32) = nI 1 from rfl, nI_sub (Nat.pow_pos (by decide)), fc_nI_and (by omega) (by omega), lN_mask (by omega) (by omega)]
  rfl
theorem signOf_nI {e s X : Nat} (ok : fw_ok e s) (hX : X < 2 ^ (e + s)) : fm_X0_signOf (fm_X0_init_0 (nI e) (nI s)) (fm_X0_init_1 (nI e) (nI s)) (fm_X0_init_2 (nI e) (nI s)) (fm_X0_init_3 (nI e) (nI s)) (fm_X0_init_4 (nI e) (nI s)) (fm_X0_init_5 (nI e) (nI s)) (nI X) = fc_bit (dx_neg e s X) := by
  have hw := w_lt ok hX
  have h1 := ok.1
  have h2 := ok.2.1
  have h3 := ok.2.2.2
  unfold fm_X0_signOf
  rw [c0_ok ok, show (1 : Int32) = nI 1 from rfl, nI_sub (by omega), fc_iushr_nI (by omega) (by omega), dx_div ok hX]
  cases dx_neg e s X <;> decide
theorem isNan_nI {e s X : Nat} (ok : fw_ok e s) (hX : X < 2 ^ (e + s)) : fm_X0_isNan (fm_X0_init_0 (nI e) (nI s)) (fm_X0_init_1 (nI e) (nI s)) (fm_X0_init_2 (nI e) (nI s)) (fm_X0_init_3 (nI e) (nI s)) (fm_X0_init_4 (nI e) (nI s)) (fm_X0_init_5 (nI e) (nI s)) (nI X) = dx_nan e s X := by
  have hb := b_ok ok
  have hm := dx_mag_lt (e := e) (s := s) (X := X)
  unfold fm_X0_isNan
  rw [unsigned_nI ok hX, c3_ok ok, nI_l (by omega), fg_below_bit, ite_c0, ite_b1, ite_b]
  unfold dx_nan
  exact decide_eq_decide.mpr (fc_lN_sub_neg (by omega) (by omega))
theorem fld_ushr {e s X : Nat} (ok : fw_ok e s) : fc_ushr (lN (dx_mag e s X)) (nI (s - 1)) = lN (dx_fld e s X) := by
  have hb := b_ok ok
  have hm := dx_mag_lt (e := e) (s := s) (X := X)
  have h3 := ok.2.2.2
  rw [fc_lN_ushr (by omega) (by omega)]
  rfl
theorem hidden_nI {e s X : Nat} (ok : fw_ok e s) (hX : X < 2 ^ (e + s)) : fm_X0_hasHiddenOne (fm_X0_init_0 (nI e) (nI s)) (fm_X0_init_1 (nI e) (nI s)) (fm_X0_init_2 (nI e) (nI s)) (fm_X0_init_3 (nI e) (nI s)) (fm_X0_init_4 (nI e) (nI s)) (fm_X0_init_5 (nI e) (nI s)) (nI X) = decide (dx_fld e s X ≠ 0) := by
  have hb := b_ok ok
  have hf := dx_fld_lt (X := X) ok
  unfold fm_X0_hasHiddenOne
  rw [unsigned_nI ok hX, c1_ok ok, fld_ushr ok, fg_any_bit, ite_c0, ite_b1, ite_b]
  refine decide_eq_decide.mpr (not_congr ?_)
  rw [show (0 : Int64) = lN 0 from rfl, lN_eq (by omega) (by omega)]
/-- a FLOAT's place in the order -/
def dx_rk (e s X : Nat) : Int := if dx_neg e s X = true then -(dx_mag e s X : Int) else dx_mag e s X
theorem rank_nI {e s X : Nat} (ok : fw_ok e s) (hX : X < 2 ^ (e + s)) : fm_X0_rank (fm_X0_init_0 (nI e) (nI s)) (fm_X0_init_1 (nI e) (nI s)) (fm_X0_init_2 (nI e) (nI s)) (fm_X0_init_3 (nI e) (nI s)) (fm_X0_init_4 (nI e) (nI s)) (fm_X0_init_5 (nI e) (nI s)) (nI X) = iL (dx_rk e s X) := by
  unfold fm_X0_rank
  rw [signOf_nI ok hX, unsigned_nI ok hX, fg_negif_bit, iL_N]
  unfold dx_rk
  split
  · rw [iL_neg]
  · rfl
theorem rk_b {e s X : Nat} (ok : fw_ok e s) : -32768 < dx_rk e s X ∧ dx_rk e s X < 32768 := by
  have hb := b_ok ok
  have hm := dx_mag_lt (e := e) (s := s) (X := X)
  unfold dx_rk
  split <;> omega
theorem isBelow_nI {e s X Y : Nat} (ok : fw_ok e s) (hX : X < 2 ^ (e + s)) (hY : Y < 2 ^ (e + s)) : fm_X0_isBelow (fm_X0_init_0 (nI e) (nI s)) (fm_X0_init_1 (nI e) (nI s)) (fm_X0_init_2 (nI e) (nI s)) (fm_X0_init_3 (nI e) (nI s)) (fm_X0_init_4 (nI e) (nI s)) (fm_X0_init_5 (nI e) (nI s)) (nI X) (nI Y) = decide (dx_rk e s X < dx_rk e s Y) := by
  have h1 := rk_b (X := X) ok
  have h2 := rk_b (X := Y) ok
  unfold fm_X0_isBelow
  rw [rank_nI ok hX, rank_nI ok hY, fg_below_bit, ite_c0, ite_b1, ite_b, iL_sub, show (0 : Int64) = iL 0 from rfl]
  refine decide_eq_decide.mpr ?_
  rw [iL_lt (by omega) (by omega) (by omega) (by omega)]
  omega
theorem frac_or {e s X : Nat} (ok : fw_ok e s) : lN (dx_frac s X) ||| fc_shl (lN (if dx_fld e s X = 0 then 0 else 1)) (nI (s - 1)) = lN (dx_m e s X) := by
  have hb := b_ok ok
  have hf := dx_frac_lt (s := s) (X := X)
  have h3 := ok.2.2.2
  rw [fc_lN_shl _ (by omega)]
  unfold dx_m
  split
  · rw [Nat.zero_mul, fc_lN_or (by omega) (by omega), Nat.or_zero]
  · rw [fc_lN_or (by omega) (by omega), Nat.or_comm, fc_or_add hf, Nat.one_mul, Nat.add_comm]
def dx_val (e s X : Nat) : fw_V := if dx_nan e s X = true then (true, false, 0, 0, 0) else if dx_inf e s X = true then (false, true, fc_bit (dx_neg e s X), 0, 0) else (false, false, fc_bit (dx_neg e s X), iL (dx_p e s X), lN (dx_m e s X))
theorem unpack_nI {e s X : Nat} (ok : fw_ok e s) (hX : X < 2 ^ (e + s)) : fm_X0_unpack (fm_X0_init_0 (nI e) (nI s)) (fm_X0_init_1 (nI e) (nI s)) (fm_X0_init_2 (nI e) (nI s)) (fm_X0_init_3 (nI e) (nI s)) (fm_X0_init_4 (nI e) (nI s)) (fm_X0_init_5 (nI e) (nI s)) (nI X) = dx_val e s X := by
  have hb := b_ok ok
  have hw := w_lt ok hX
  have hm := dx_mag_lt (e := e) (s := s) (X := X)
  have hf := dx_fld_lt (X := X) ok
  have hl := l_ok ok
  have h3 := ok.2.2.2
  unfold fm_X0_unpack dx_val
  rw [isNan_nI ok hX]
  dsimp only
  cases hn : dx_nan e s X with
  | true => rfl
  | false =>
    rw [ite_jb, ite_f, ite_f, unsigned_nI ok hX, signOf_nI ok hX, c3_ok ok, nI_l (by omega), ite_c0, fg_any_bit (lN (dx_mag e s X) ^^^ lN (sp_inf e s)), ite_b0, ite_dt]
    have hx : (lN (dx_mag e s X) ^^^ lN (sp_inf e s) = 0) ↔ dx_inf e s X = true := by
      unfold dx_inf
      rw [decide_eq_true_iff, Int64.xor_eq_zero_iff, lN_eq (by omega) (by omega)]
    by_cases hi : dx_inf e s X = true
    · rw [if_neg (fun h => h (hx.mpr hi)), if_pos hi]
      rfl
    · rw [if_pos (fun h => hi (hx.mp h)), if_neg hi, c1_ok ok, fld_ushr ok, c5_ok ok, nI_l (by omega), fc_lN_mask (by omega) (by omega), fg_any_lN (by omega)]
      have hfr := frac_or (X := X) ok
      unfold dx_frac at hfr
      rw [hfr, fg_sum_eq, fg_diff_eq, iI_L (by omega) (by omega), iL_N (dx_fld e s X), iL_N (if dx_fld e s X = 0 then 0 else 1), iL_sub, iL_add]
      unfold dx_p fm_X4_finite fm_X4_init_0 fm_X4_init_1 fm_X4_init_2 fm_X4_init_3 fm_X4_init_4
      congr 4
      refine congrArg iL ?_
      split <;> omega
theorem take_lN {e s X : Nat} (ok : fw_ok e s) (hX : X < 2 ^ (e + s)) (a0 : Int32) (a1 : Int32) (a2 : Bool) (a3 : Int64) (a4 : Int32) (a5 : Bool) (a6 : Bool) : fm_X6_take a0 a1 a2 a3 a4 a5 a6 (lN X) (nI (1000 + 100 * e + s)) = (a0, a1, dx_neg e s X, lN (dx_m e s X), iI (dx_p e s X), dx_inf e s X, dx_nan e s X) := by
  have hb := b_ok ok
  have hw := w_lt ok hX
  have hm := dx_mag_lt (e := e) (s := s) (X := X)
  have hf := dx_fld_lt (X := X) ok
  have hr := dx_frac_lt (s := s) (X := X)
  have hl := l_ok ok
  have h1 := ok.1
  have h2 := ok.2.1
  have h3 := ok.2.2.2
  have hfl : X / 2 ^ (s - 1) % 2 ^ e = dx_fld e s X := by
    unfold dx_fld dx_mag
    rw [hb.2.2.2.2.2.2.2.2.2, Nat.mul_comm, Nat.mod_mul_right_div_self]
  have hd : X / 2 ^ (s - 1) < 2 ^ 64 := Nat.lt_of_le_of_lt (Nat.div_le_self _ _) (by omega)
  simp only [fm_X6_take, fm_X6_take_s1, fm_X6_take_s2, fm_X6_take_s3, fm_X6_take_s4, fm_X6_take_s5, fm_X6_take_s6, fm_X6_take_s7, fm_X6_take_s8, fm_X6_take_s9, fm_X6_take_s10, fm_X6_take_s11]
  rw [me_ok ok, ms_ok ok, show (1 : Int32) = nI 1 from rfl, nI_sub (show 1 ≤ s by have := ok.2.2.1; omega), mm_ok (by omega), mm_ok (by omega), lN_mask (by omega) (by omega), fc_lN_ushr (by omega) (by omega), lN_mask hd (by omega), hfl]
  rw [nI_add, show e + (s - 1) = e + s - 1 by have := ok.2.2.1; omega, fc_lN_ushr (by omega) (by omega), dx_div ok hX]
  show (a0, a1, _, _, _, _, _) = _
  have e1 : (if lg_cmp (lN (dx_neg e s X).toNat &&& 1) 1 = 0 then true else false) = dx_neg e s X := by cases dx_neg e s X <;> decide
  have e2 : (if lg_cmp (lN (dx_fld e s X)) 0 = 0 then lN (X % 2 ^ (s - 1)) else lN (X % 2 ^ (s - 1)) ||| fc_shl 1 (nI (s - 1))) = lN (dx_m e s X) := by
    rw [← frac_or ok, ite_n0 (by omega)]
    unfold dx_frac
    by_cases h0 : dx_fld e s X = 0
    · rw [if_pos h0, if_pos h0, fc_lN_shl _ (by omega), Nat.zero_mul, fc_lN_or (by unfold dx_frac at hr; omega) (by omega), Nat.or_zero]
    · rw [if_neg h0, if_neg h0]; rfl
  have e3 : (if lg_cmp (lN (dx_fld e s X)) 0 = 0 then nI 1 else (lN (dx_fld e s X)).toInt32) - (fc_ishl (nI 1) (nI e - nI 1) - nI 1) - nI (s - 1) = iI (dx_p e s X) := by
    rw [show nI 1 = (1 : Int32) from rfl, mb_ok ok, ite_n0 (by omega), lN_32 (by omega), iI_N (dx_fld e s X), iI_N (2 ^ (e - 1) - 1), iI_N (s - 1)]
    unfold dx_p
    rw [hl.2.2]
    split
    · rw [show (1 : Int32) = iI 1 from rfl, iI_sub, iI_sub]; congr 1; omega
    · rw [iI_sub, iI_sub]; congr 1; omega
  have e4 : (lg_cmp (lN (dx_fld e s X)) (lN (2 ^ e - 1)) = 0) ↔ dx_fld e s X = 2 ^ e - 1 := by rw [cmp_0, lN_eq (by omega) (by omega)]
  have e5 : (lg_cmp (lN (X % 2 ^ (s - 1))) 0 = 0) ↔ dx_frac s X = 0 := by
    rw [cmp_0, show (0 : Int64) = lN 0 from rfl, lN_eq (by unfold dx_frac at hr; omega) (by omega)]; rfl
  have e6 : (if lg_cmp (lN (dx_fld e s X)) (lN (2 ^ e - 1)) = 0 then if lg_cmp (lN (X % 2 ^ (s - 1))) 0 = 0 then true else false else false) = dx_inf e s X := by
    rw [Bool.eq_iff_iff, dx_inf_iff ok]
    simp only [e4, e5]
    by_cases h4 : dx_fld e s X = 2 ^ e - 1 <;> by_cases h5 : dx_frac s X = 0 <;> simp [h4, h5]
  have e7 : (if lg_cmp (lN (dx_fld e s X)) (lN (2 ^ e - 1)) = 0 then if lg_cmp (lN (X % 2 ^ (s - 1))) 0 = 0 then false else true else false) = dx_nan e s X := by
    rw [Bool.eq_iff_iff, dx_nan_iff ok]
    simp only [e4, e5]
    by_cases h4 : dx_fld e s X = 2 ^ e - 1 <;> by_cases h5 : dx_frac s X = 0 <;> simp [h4, h5]
  rw [e1, e2, e3, e6, e7]
