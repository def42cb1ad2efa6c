/-! PURE: reckon: sum and difference -/
def smv (md : Nat) (u v : fw_V) : fw_V := fm_X2_sum (nI md) u.1 u.2.1 u.2.2.1 u.2.2.2.1 u.2.2.2.2 v.1 v.2.1 v.2.2.1 v.2.2.2.1 v.2.2.2.2
def opv (v : fw_V) : fw_V := fm_X4_opposite v.1 v.2.1 v.2.2.1 v.2.2.2.1 v.2.2.2.2
def prv (u v : fw_V) : fw_V := fm_X2_product u.1 u.2.1 u.2.2.1 u.2.2.2.1 u.2.2.2.2 v.1 v.2.1 v.2.2.1 v.2.2.2.1 v.2.2.2.2
def quv (u v : fw_V) : fw_V := fm_X2_quotient u.1 u.2.1 u.2.2.1 u.2.2.2.1 u.2.2.2.2 v.1 v.2.1 v.2.2.1 v.2.2.2.1 v.2.2.2.2
/-- what take leaves -/
def tk (e s X : Nat) (a0 a1 : Int32) : fw_S7 := (a0, a1, dx_neg e s X, lN (dx_m e s X), iI (dx_p e s X), dx_inf e s X, dx_nan e s X)
theorem eqb (a b : Bool) : (jb a = jb b) ↔ a = b := by cases a <;> cases b <;> decide
theorem ar_start {e s X Y : Nat} (ok : fw_ok e s) (hX : X < 2 ^ (e + s)) (hY : Y < 2 ^ (e + s)) (op md : Int32) (a0 : Int32) (a1 : Int32) (a2 : Bool) (a3 : Int64) (a4 : Int32) (a5 : Bool) (a6 : Bool) : fm_X6_arithmetic a0 a1 a2 a3 a4 a5 a6 op md (lN X) (lN Y) (nI (1000 + 100 * e + s)) = if dx_nan e s X = true then (lN (sp_inf e s + 2 ^ (s - 2)), tk e s Y a0 a1) else if dx_nan e s Y = true then (lN (sp_inf e s + 2 ^ (s - 2)), tk e s Y a0 a1) else fm_X6_arithmetic_s9 a0 a1 a2 a3 a4 a5 a6 op md (lN X) (lN Y) (nI (1000 + 100 * e + s)) (lN (sp_inf e s + 2 ^ (s - 2))) (lN (2 ^ (e + s - 1))) (tk e s X a0 a1) (tk e s Y a0 a1) (if op = 47 then !dx_neg e s Y else dx_neg e s Y) := by
  unfold fm_X6_arithmetic
  rw [me_ok ok, ms_ok ok, mn_ok ok]
  unfold fm_X6_arithmetic_s1
  rw [(sbit_ok ok).1]
  unfold fm_X6_arithmetic_s2
  rw [take_lN ok hX]
  unfold fm_X6_arithmetic_s3
  dsimp only
  rw [take_lN ok hY]
  unfold fm_X6_arithmetic_s4
  dsimp only
  rw [ite_jb]
  cases hn : dx_nan e s X with
  | true =>
    rw [ite_t, ite_t]
    rfl
  | false =>
    rw [ite_f, ite_f]
    unfold fm_X6_arithmetic_s5
    dsimp only
    rw [ite_jb]
    cases hn2 : dx_nan e s Y with
    | true =>
      rw [ite_t, ite_t]
      unfold fm_X6_arithmetic_s8 tk
      dsimp only
      rw [hn2]
    | false =>
      rw [ite_f, ite_f]
      unfold fm_X6_arithmetic_s7 tk
      dsimp only
      rw [hn, hn2, show (if jb (dx_neg e s Y) = 0 then true else false) = !dx_neg e s Y by cases dx_neg e s Y <;> rfl]
theorem xor_sb {e s Y : Nat} (ok : fw_ok e s) (hY : Y < 2 ^ (e + s)) : lN Y ^^^ lN (2 ^ (e + s - 1)) = lN ((!dx_neg e s Y).toNat * 2 ^ (e + s - 1) + dx_mag e s Y) := by
  have hb := b_ok ok
  have hm := dx_mag_lt (e := e) (s := s) (X := Y)
  have hw := w_lt ok hY
  have hsp := dx_split ok hY
  have h3 : ∀ a b : Nat, lN a ^^^ lN b = lN (a ^^^ b) := by
    intro a b
    apply Int64.toBitVec.inj
    rw [Int64.toBitVec_xor]
    apply BitVec.eq_of_toNat_eq
    rw [BitVec.toNat_xor]
    show fc_u (lN a) ^^^ fc_u (lN b) = fc_u (lN (a ^^^ b))
    rw [fc_u_lN, fc_u_lN, fc_u_lN, Nat.xor_mod_two_pow]
  rw [h3]
  congr 1
  have h4 : ∀ b : Nat, dx_mag e s Y ^^^ 2 ^ (e + s - 1) = dx_mag e s Y + 2 ^ (e + s - 1) := by
    intro _
    have := Nat.two_pow_add_eq_or_of_lt hm 1
    rw [Nat.mul_one] at this
    rw [Nat.add_comm (dx_mag e s Y), this]
    apply Nat.eq_of_testBit_eq
    intro i
    rw [Nat.testBit_xor, Nat.testBit_or, Nat.testBit_two_pow]
    by_cases hi : e + s - 1 = i
    · subst hi
      rw [Nat.testBit_lt_two_pow hm]
      simp
    · simp [hi]
  cases hn : dx_neg e s Y with
  | false =>
    rw [hn] at hsp
    simp at hsp ⊢
    rw [← hsp] at h4
    have := h4 0
    omega
  | true =>
    rw [hn] at hsp
    simp at hsp ⊢
    have h5 := h4 0
    rw [show Y = dx_mag e s Y ^^^ 2 ^ (e + s - 1) by omega, Nat.xor_assoc, Nat.xor_self, Nat.xor_zero]
    have h6 : dx_mag e s (dx_mag e s Y ^^^ 2 ^ (e + s - 1)) = dx_mag e s Y := by
      rw [h5]
      unfold dx_mag
      rw [Nat.add_mod_right, Nat.mod_mod]
    exact h6.symm
theorem p_diff {e s X Y : Nat} (ok : fw_ok e s) : dx_p e s X - dx_p e s Y ≤ (2 ^ e : Nat) - 2 ∧ dx_p e s X - dx_p e s Y ≤ 30 := by
  have h1 := dx_fld_lt (X := X) ok
  have hb := b_ok ok
  unfold dx_p
  split <;> split <;> omega
/-- a summand, in words -/
def sgv (neg : Bool) (m : Nat) (d : Int) : Int := if neg = true then -((m * 2 ^ d.toNat : Nat) : Int) else (m * 2 ^ d.toNat : Nat)
theorem sg_cls {m : Nat} {p q : Int} (neg n i : Bool) (h0 : 0 ≤ p - q) (h : p - q < 64) : fm_X2_signedAt (iL q) n i (fc_bit neg) (iL p) (lN m) = iL (sgv neg m (p - q)) := by
  unfold fm_X2_signedAt
  dsimp only
  rw [fg_diff_eq, iL_sub, iL_toNat h0, fg_sl_lN _ (by omega), fg_negif_bit]
  unfold sgv
  cases neg with
  | true => rw [ite_t, ite_t, iL_N, iL_neg]
  | false => rw [ite_f, ite_f, iL_N]
theorem sg_ref {m : Nat} {p q : Int} (neg : Bool) (h0 : 0 ≤ p - q) (h : p - q < 64) : (if jb neg = 0 then fc_shl (lN m) (iI p - iI q) else 0 - fc_shl (lN m) (iI p - iI q)) = iL (sgv neg m (p - q)) := by
  rw [iI_sub, show iI (p - q) = nI (p - q).toNat by rw [iI_N]; congr 1; omega, fc_lN_shl _ (by omega), ite_jb]
  unfold sgv
  cases neg with
  | true => rw [ite_t, ite_t, iL_N, show (0 : Int64) = iL 0 from rfl, iL_sub]; congr 1; omega
  | false => rw [ite_f, ite_f, iL_N]
theorem sg_b {m : Nat} {d : Int} (neg : Bool) (hm : m < 2048) (hd : d ≤ 30) : -2 ^ 42 < sgv neg m d ∧ sgv neg m d < 2 ^ 42 := by
  have h1 : 2 ^ d.toNat ≤ 2 ^ 30 := Nat.pow_le_pow_right (by decide) (by omega)
  have h2 : m * 2 ^ d.toNat ≤ 2047 * 2 ^ 30 := Nat.mul_le_mul (by omega) h1
  unfold sgv
  split <;> omega
theorem sg_0 {m : Nat} {d : Int} (neg : Bool) : sgv neg m d = 0 ↔ m = 0 := by
  have hp := Nat.pow_pos (n := d.toNat) (show 0 < 2 by decide)
  have h0 : m * 2 ^ d.toNat = 0 ↔ m = 0 := by
    constructor
    · intro h
      rcases Nat.mul_eq_zero.mp h with h | h
      · exact h
      · omega
    · rintro rfl; exact Nat.zero_mul _
  unfold sgv
  split <;> omega
theorem sg_s {m : Nat} {d : Int} (neg : Bool) : (neg = true → sgv neg m d ≤ 0) ∧ (neg = false → 0 ≤ sgv neg m d) := by
  unfold sgv
  cases neg with
  | true => exact ⟨fun _ => (by rw [ite_t]; omega), fun h => (by cases h)⟩
  | false => exact ⟨fun h => (by cases h), fun _ => (by rw [ite_f]; omega)⟩
/-- a Value's sign set -/
def dx_vs (e s X : Nat) (b : Bool) : fw_V := if dx_nan e s X = true then (true, false, fc_bit b, 0, 0) else if dx_inf e s X = true then (false, true, fc_bit b, 0, 0) else (false, false, fc_bit b, iL (dx_p e s X), lN (dx_m e s X))
theorem op_val {e s X : Nat} : opv (dx_val e s X) = dx_vs e s X (if dx_nan e s X = true then true else !dx_neg e s X) := by
  unfold dx_val dx_vs opv fm_X4_opposite fm_X4_init_0 fm_X4_init_1 fm_X4_init_2 fm_X4_init_3 fm_X4_init_4
  cases dx_nan e s X with
  | true =>
    rw [ite_t, ite_t, ite_t]
    dsimp only
    rw [show (0 : Int64) ^^^ 1 = fc_bit true from by decide]
  | false =>
    rw [ite_f, ite_f, ite_f]
    cases dx_inf e s X with
    | true => rw [ite_t, ite_t, ← fc_bit_x1]
    | false => rw [ite_f, ite_f, ← fc_bit_x1]
theorem vs_val {e s X : Nat} (h : dx_nan e s X = false) : dx_val e s X = dx_vs e s X (dx_neg e s X) := by
  unfold dx_val dx_vs
  rw [h, ite_f, ite_f]
/-- the sign of a sum that is zero -/
theorem zs_bit {md : Nat} (hmd : md < 5) (a b : Bool) : fm_X2_signOfZeroSum (nI md) (fc_bit a) (fc_bit b) = fc_bit (if md = 3 then a || b else a && b) := by
  revert a b
  exact md_cases (P := fun md => ∀ a b : Bool, fm_X2_signOfZeroSum (nI md) (fc_bit a) (fc_bit b) = fc_bit (if md = 3 then a || b else a && b)) (by decide +kernel) (by decide +kernel) (by decide +kernel) (by decide +kernel) (by decide +kernel) hmd
/-- the lesser of two exponents -/
def mnp (a b : Int) : Int := if a < b then a else b
/-- the sum of finite ones, on both sides -/
theorem sum_fin {e s X Y md : Nat} (ok : fw_ok e s) (hmd : md < 5) (a b : Bool) (op : Int32) (a0 : Int32) (a1 : Int32) (a2 : Bool) (a3 : Int64) (a4 : Int32) (a5 : Bool) (a6 : Bool) (x1 : Int64) (p3 p4 : Int64) (nX nY : Bool) : ∃ N : Nat, N < 65536 ∧ pkv e s md (fm_X2_sum_48 (nI md) false false (fc_bit a) (iL (dx_p e s X)) (lN (dx_m e s X)) false false (fc_bit b) (iL (dx_p e s Y)) (lN (dx_m e s Y))) = nI N ∧ fm_X6_arithmetic_s47 a0 a1 a2 a3 a4 a5 a6 op (nI md) p3 p4 (nI (1000 + 100 * e + s)) x1 (lN (2 ^ (e + s - 1))) (a0, a1, a, lN (dx_m e s X), iI (dx_p e s X), false, nX) (a0, a1, nY, lN (dx_m e s Y), iI (dx_p e s Y), false, false) b = (lN N, a0, a1, nY, lN (dx_m e s Y), iI (dx_p e s Y), false, false) := by
  have hb := b_ok ok
  have hl := l_ok ok
  have hmX := dx_m_lt (X := X) ok
  have hmY := dx_m_lt (X := Y) ok
  have hpX := dx_p_b (X := X) ok
  have hpY := dx_p_b (X := Y) ok
  have hd1 := (p_diff (X := X) (Y := Y) ok).2
  have hd2 := (p_diff (X := Y) (Y := X) ok).2
  generalize dx_p e s X = pX at *
  generalize dx_p e s Y = pY at *
  generalize dx_m e s X = mX at *
  generalize dx_m e s Y = mY at *
  have hq1 : 0 ≤ pX - mnp pX pY ∧ pX - mnp pX pY ≤ 30 := by unfold mnp; split <;> omega
  have hq2 : 0 ≤ pY - mnp pX pY ∧ pY - mnp pX pY ≤ 30 := by unfold mnp; split <;> omega
  have hq3 : -24 ≤ mnp pX pY ∧ mnp pX pY ≤ 30 := by unfold mnp; split <;> omega
  have e1 : fg_choose (fg_below (iL pX) (iL pY)) (iL pX) (iL pY) = iL (mnp pX pY) := by
    rw [fg_below_bit, fg_choose_bit, ite_dt, iL_sub, show (0 : Int64) = iL 0 from rfl]
    have hc : (iL (pX - pY) < iL 0) ↔ pX < pY := by
      rw [iL_lt (by omega) (by omega) (by omega) (by omega)]
      omega
    unfold mnp
    by_cases h : pX < pY
    · rw [if_pos (hc.mpr h), if_pos h]
    · rw [if_neg (fun q => h (hc.mp q)), if_neg h]
  have e2 : (if iI pY ≤ iI pX then iI pY else iI pX) = iI (mnp pX pY) := by
    have hc : (iI pY ≤ iI pX) ↔ pY ≤ pX := iI_le (by omega) (by omega) (by omega) (by omega)
    unfold mnp
    by_cases h : pX < pY
    · rw [if_neg (fun q => by have := hc.mp q; omega), if_pos h]
    · rw [if_pos (hc.mpr (by omega)), if_neg h]
  unfold fm_X2_sum_48 fm_X6_arithmetic_s47
  dsimp only
  rw [e1, e2, sg_cls a false false hq1.1 (by omega), sg_cls b false false hq2.1 (by omega), fg_sum_eq, iL_add]
  unfold fm_X6_arithmetic_s49
  dsimp only
  rw [sg_ref a hq1.1 (by omega)]
  unfold fm_X6_arithmetic_s50
  dsimp only
  rw [sg_ref b hq2.1 (by omega)]
  unfold fm_X6_arithmetic_s51
  rw [iL_add]
  have hb1 := sg_b (d := pX - mnp pX pY) a hmX hq1.2
  have hb2 := sg_b (d := pY - mnp pX pY) b hmY hq2.2
  have hz1 := sg_0 (m := mX) (d := pX - mnp pX pY) a
  have hz2 := sg_0 (m := mY) (d := pY - mnp pX pY) b
  have hs1 := sg_s (m := mX) (d := pX - mnp pX pY) a
  have hs2 := sg_s (m := mY) (d := pY - mnp pX pY) b
  generalize sgv a mX (pX - mnp pX pY) = A at *
  generalize sgv b mY (pY - mnp pX pY) = B at *
  unfold fm_X6_arithmetic_s52
  rw [ite_jb, ite_jb, ite_f, ite_f, fg_any_bit, ite_c0, ite_c0, ite_b0, ite_dt]
  have hne : (iL (A + B) = 0) ↔ A + B = 0 := by
    rw [show (0 : Int64) = iL 0 from rfl, iL_eq (by omega) (by omega) (by omega) (by omega)]
  by_cases h0 : A + B = 0
  · rw [if_neg (fun q => q (hne.mpr h0)), if_pos (hne.mpr h0), zs_bit hmd]
    refine ⟨rnd e s md (if md = 3 then a || b else a && b) 0 0 false, rnd_lt ok _ _ _ _, ?_, ?_⟩
    · show fm_X0_pack (fm_X0_init_0 (nI e) (nI s)) (fm_X0_init_1 (nI e) (nI s)) (fm_X0_init_2 (nI e) (nI s)) (fm_X0_init_3 (nI e) (nI s)) (fm_X0_init_4 (nI e) (nI s)) (fm_X0_init_5 (nI e) (nI s)) (nI md) false false (fc_bit (if md = 3 then a || b else a && b)) (iL 0) (lN 0) = _
      exact pack_fin ok hmd _ (Or.inl rfl)
    have hr0 : ∀ c : Bool, rnd e s md c 0 0 false = c.toNat * 2 ^ (e + s - 1) := fun c => by unfold rnd; rw [if_pos rfl]; rfl
    rw [hr0]
    have h293 : fm_X6_arithmetic_293 a0 a1 a2 a3 a4 a5 a6 op (nI md) p3 p4 (nI (1000 + 100 * e + s)) x1 (lN (2 ^ (e + s - 1))) (a0, a1, a, lN mX, iI pX, false, nX) (a0, a1, nY, lN mY, iI pY, false, false) b (iI (mnp pX pY)) (iL A) (iL B) (iL (A + B)) = (lN ((decide (md = 3)).toNat * 2 ^ (e + s - 1)), a0, a1, nY, lN mY, iI pY, false, false) := by
      unfold fm_X6_arithmetic_293 fm_X6_arithmetic_s63 fm_X6_arithmetic_s64
      dsimp only
      have hc : (nI md = 3) ↔ md = 3 := nI_eq (b := 3) (by omega) (by decide)
      by_cases h3 : md = 3
      · rw [if_pos (hc.mpr h3), decide_eq_true h3, show true.toNat * 2 ^ (e + s - 1) = 2 ^ (e + s - 1) by simp]
      · rw [if_neg (fun q => h3 (hc.mp q)), decide_eq_false h3, show false.toNat * 2 ^ (e + s - 1) = 0 by simp]
        rfl
    unfold fm_X6_arithmetic_s53
    dsimp only
    rw [ite_n0 (by omega)]
    by_cases hm0 : mX = 0
    · rw [if_pos hm0]
      unfold fm_X6_arithmetic_s57
      dsimp only
      by_cases hab : a = b
      · rw [if_pos ((eqb _ _).mpr hab)]
        subst hab
        unfold fm_X6_arithmetic_s59 fm_X6_arithmetic_s61 fm_X6_arithmetic_s62
        dsimp only
        rw [Bool.or_self, Bool.and_self, show (if md = 3 then a else a) = a by split <;> rfl]
        cases a with
        | true => rw [ite_jb, ite_t, show true.toNat * 2 ^ (e + s - 1) = 2 ^ (e + s - 1) by simp]
        | false => rw [ite_jb, ite_f, show false.toNat * 2 ^ (e + s - 1) = 0 by simp]; rfl
      · rw [if_neg (fun q => hab ((eqb _ _).mp q))]
        unfold fm_X6_arithmetic_s60
        rw [h293]
        cases a <;> cases b <;> first | exact absurd rfl hab | (by_cases h3 : md = 3 <;> simp [h3])
    · rw [if_neg hm0]
      unfold fm_X6_arithmetic_s58
      rw [h293]
      have hab : a ≠ b := by
        rintro rfl
        cases a with
        | true => have := hs1.1 rfl; have := hs2.1 rfl; exact hm0 (hz1.mp (by omega))
        | false => have := hs1.2 rfl; have := hs2.2 rfl; exact hm0 (hz1.mp (by omega))
      cases a <;> cases b <;> first | exact absurd rfl hab | (by_cases h3 : md = 3 <;> simp [h3])
  · rw [if_pos (fun q => h0 (hne.mp q)), if_neg (fun q => h0 (hne.mp q))]
    have hlt : (iL (A + B) < 0) ↔ A + B < 0 := by
      rw [show (0 : Int64) = iL 0 from rfl, iL_lt (by omega) (by omega) (by omega) (by omega)]
    have en : fg_neg (iL (A + B)) = fc_bit (decide (A + B < 0)) := by
      rw [fg_neg_bit]
      congr 1
      exact decide_eq_decide.mpr hlt
    have em : fg_negif (fc_bit (decide (A + B < 0))) (iL (A + B)) = lN (A + B).natAbs := by
      rw [fg_negif_bit, ite_dt, iL_N]
      by_cases h : A + B < 0
      · rw [if_pos h, iL_neg]; congr 1; omega
      · rw [if_neg h]; congr 1; omega
    rw [en, em]
    have hN : (A + B).natAbs ≠ 0 := by omega
    refine ⟨rnd e s md (decide (A + B < 0)) (A + B).natAbs (mnp pX pY) false, rnd_lt ok _ _ _ _, ?_, ?_⟩
    · show fm_X0_pack (fm_X0_init_0 (nI e) (nI s)) (fm_X0_init_1 (nI e) (nI s)) (fm_X0_init_2 (nI e) (nI s)) (fm_X0_init_3 (nI e) (nI s)) (fm_X0_init_4 (nI e) (nI s)) (fm_X0_init_5 (nI e) (nI s)) (nI md) false false (fc_bit (decide (A + B < 0))) (iL (mnp pX pY)) (lN (A + B).natAbs) = _
      exact pack_fin ok hmd _ (Or.inr ⟨hN, by omega, by omega, by omega⟩)
    unfold fm_X6_arithmetic_s54 fm_X6_arithmetic_s55 fm_X6_arithmetic_s56
    dsimp only
    have er : (if 0 ≤ lg_cmp (iL (A + B)) 0 then iL (A + B) else 0 - iL (A + B)) = lN (A + B).natAbs := by
      rw [ite_cge, iL_N]
      by_cases h : A + B < 0
      · rw [if_pos (hlt.mpr h), show (0 : Int64) = iL 0 from rfl, iL_sub]; congr 1; omega
      · rw [if_neg (fun q => h (hlt.mp q))]; congr 1; omega
    have es : (if 0 ≤ lg_cmp (iL (A + B)) 0 then false else true) = decide (A + B < 0) := by
      rw [ite_cge]
      by_cases h : A + B < 0
      · rw [if_pos (hlt.mpr h), decide_eq_true h]
      · rw [if_neg (fun q => h (hlt.mp q)), decide_eq_false h]
    rw [er, es, mround_lN ok hmd _ false ⟨hN, by omega, by omega, by omega, by omega⟩]
