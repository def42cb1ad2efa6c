/-! PURE: the class's rounding and packing -/
theorem lN_bit (n : Nat) : lN (n % 2) = fc_bit (decide (n % 2 = 1)) := by
  rcases Nat.mod_two_eq_zero_or_one n with h | h <;> rw [h] <;> rfl
theorem md_cases {P : Nat → Prop} (h0 : P 0) (h1 : P 1) (h2 : P 2) (h3 : P 3) (h4 : P 4) {m : Nat} (h : m < 5) : P m := by
  rcases (show m = 0 ∨ m = 1 ∨ m = 2 ∨ m = 3 ∨ m = 4 by omega) with rfl | rfl | rfl | rfl | rfl <;> assumption
theorem oneMore_bit {md : Nat} (h : md < 5) (neg a b c : Bool) : fm_X3_oneMore (nI md) (fc_bit neg) (fc_bit a) (fc_bit b) (fc_bit c) = fc_bit (sp_up md neg a b c) := by
  revert neg a b c
  exact md_cases (P := fun md => ∀ neg a b c : Bool, fm_X3_oneMore (nI md) (fc_bit neg) (fc_bit a) (fc_bit b) (fc_bit c) = fc_bit (sp_up md neg a b c)) (by decide +kernel) (by decide +kernel) (by decide +kernel) (by decide +kernel) (by decide +kernel) h
theorem endless_bit {md : Nat} (h : md < 5) (neg : Bool) : fm_X3_isEndless (nI md) (fc_bit neg) = sp_end md neg := by
  revert neg
  exact md_cases (P := fun md => ∀ neg : Bool, fm_X3_isEndless (nI md) (fc_bit neg) = sp_end md neg) (by decide +kernel) (by decide +kernel) (by decide +kernel) (by decide +kernel) (by decide +kernel) h
theorem sp_up_0 {md : Nat} (neg odd : Bool) : sp_up md neg odd false false = false := by
  unfold sp_up
  split <;> simp
theorem iL_toNat {z : Int} (h : 0 ≤ z) : iL z = lN z.toNat := by
  rw [iL_N]
  congr 1
  omega
theorem rest_nI (R : Nat) (hR : R < 2 ^ 64) {md : Nat} (hm : md < 5) (neg : Bool) : fg_sum (fc_ushr (lN R) 2) (fm_X3_oneMore (nI md) (fc_bit neg) (fc_ushr (lN R) 2 &&& 1) (fc_ushr (lN R) 1 &&& 1) (lN R &&& 1)) = lN (R / 4 + (sp_up md neg (decide (R / 4 % 2 = 1)) (decide (R / 2 % 2 = 1)) (decide (R % 2 = 1))).toNat) := by
  rw [show (2 : Int32) = nI 2 from rfl, show (1 : Int32) = nI 1 from rfl, fc_lN_ushr hR (by omega), fc_lN_ushr hR (by omega), fc_lN_and1 (by omega), fc_lN_and1 (by omega), fc_lN_and1 hR, lN_bit, lN_bit, lN_bit, oneMore_bit hm, fg_sum_eq, fc_bit_lN, lN_add]
theorem round_lN {md m : Nat} (hmd : md < 5) (hm : m < 2 ^ 60) (neg n i : Bool) {p u : Int} (hp1 : -1000 ≤ p) (hp2 : p ≤ 1000) (hu1 : -1000 ≤ u) (hu2 : u ≤ 1000) (h64 : u - p < 64) (h46 : p - u < 64) (hb : m * 2 ^ (p - u).toNat < 2 ^ 60) :
    fm_X3_round (nI md) n i (fc_bit neg) (iL p) (lN m) (iL u) = lN (sp_at md neg m p u false) := by
  unfold fm_X3_round
  dsimp only
  rw [fg_diff_eq, iL_sub, show (2 : Int32) = nI 2 from rfl, fc_lN_shl _ (by omega), fg_negif1, iL_neg, fg_neg_bit, fg_choose_bit]
  have hz : (iL (u - p) < 0) ↔ u - p < 0 := by
    rw [show (0 : Int64) = iL 0 from rfl, iL_lt (by omega) (by omega) (by omega) (by omega)]
  rw [ite_dt]
  by_cases h : u - p < 0
  · rw [if_pos (hz.mpr h), iL_toNat (by omega), fg_sl_lN _ (by omega), show (-(u - p)).toNat = (p - u).toNat by omega]
    have e4 : m * 2 ^ 2 * 2 ^ (p - u).toNat = 4 * (m * 2 ^ (p - u).toNat) := by
      rw [Nat.mul_comm m, Nat.mul_assoc]
    rw [e4]
    unfold sp_at
    rw [if_neg (by omega)]
    generalize m * 2 ^ (p - u).toNat = M at hb
    rw [show nI 2 = (2 : Int32) from rfl, rest_nI _ (by omega) hmd]
    rw [show 4 * M / 2 % 2 = 0 by omega, show 4 * M % 2 = 0 by omega, show 4 * M / 4 = M by omega]
    rw [show decide (0 = 1) = false from rfl, sp_up_0]
    rfl
  · rw [if_neg (fun q => h (hz.mp q)), iL_toNat (by omega), fg_sr_lN (by omega) (by omega)]
    have hR := fc_sr_le (m * 2 ^ 2) (u - p).toNat
    rw [show nI 2 = (2 : Int32) from rfl, rest_nI _ (by omega) hmd]
    unfold sp_at
    rw [if_pos (by omega)]
    unfold sp_cut
    by_cases h0 : (u - p).toNat = 0
    · rw [if_pos h0, h0]
      have e5 : fc_sr (m * 2 ^ 2) 0 = 4 * m := by
        unfold fc_sr
        rw [Nat.pow_zero, Nat.div_one, Nat.mod_one, if_pos rfl, Nat.or_zero]
        omega
      rw [e5, show 4 * m / 2 % 2 = 0 by omega, show 4 * m % 2 = 0 by omega, show 4 * m / 4 = m by omega, show decide (0 = 1) = false from rfl, sp_up_0]
      rfl
    · rw [if_neg h0]
      obtain ⟨q1, q2, q3⟩ := sp_mark m (n := (u - p).toNat) (by omega)
      rw [show m * 2 ^ 2 = 4 * m by omega, q1, q2, q3]
      congr 4
      · by_cases hr : m % 2 ^ ((u - p).toNat - 1) = 0 <;> simp [hr]
theorem sp_unit_ge (e s m : Nat) (p : Int) : sp_least e s ≤ sp_unit e s m p := by
  unfold sp_unit
  split <;> omega
/-- what a packing asks of a number, that no shift runs over -/
def qk_in (m : Nat) (p : Int) : Prop := m ≠ 0 ∧ m < 2 ^ 45 ∧ -60 ≤ p ∧ p ≤ 100
theorem log2_lt {m n : Nat} (h0 : m ≠ 0) (h : m < 2 ^ n) : m.log2 < n := (Nat.log2_lt h0).mpr h
theorem unit_b {e s m : Nat} {p : Int} (ok : fw_ok e s) (h : qk_in m p) : -1000 ≤ sp_unit e s m p ∧ sp_unit e s m p ≤ 200 ∧ sp_unit e s m p - p < 62 ∧ p - sp_unit e s m p < 62 := by
  obtain ⟨h0, h1, h2, h3⟩ := h
  have hl := l_ok ok
  have hg := log2_lt h0 h1
  have h4 := ok.2.2.2
  have h5 := ok.2.2.1
  unfold sp_unit
  split <;> omega
theorem at_b {e s md m : Nat} {p : Int} {neg more : Bool} (ok : fw_ok e s) (h0 : m ≠ 0) : sp_at md neg m p (sp_unit e s m p) more ≤ 2048 := by
  have h := sp_at_hi e s md neg h0 p more (by have := ok.2.2.1; omega)
  have hb := b_ok ok
  omega
theorem shl_b {e s m : Nat} {p : Int} (ok : fw_ok e s) (h : qk_in m p) : m * 2 ^ (p - sp_unit e s m p).toNat < 2 ^ 60 := by
  obtain ⟨h0, h1, h2, h3⟩ := h
  by_cases hc : p ≤ sp_unit e s m p
  · rw [show (p - sp_unit e s m p).toNat = 0 by omega, Nat.pow_zero]
    omega
  · have hh := at_b (e := e) (s := s) (md := 0) (p := p) (neg := false) (more := false) ok h0
    unfold sp_at at hh
    rw [if_neg hc] at hh
    omega
theorem qk_lt {e s md m : Nat} {p : Int} {neg more : Bool} (ok : fw_ok e s) (h : qk_in m p) : sp_pk e s md neg m p more < 2 ^ 30 := by
  have hu := unit_b ok h
  have hl := l_ok ok
  have ha := at_b (e := e) (s := s) (md := md) (p := p) (neg := neg) (more := more) ok h.1
  have hb := b_ok ok
  unfold sp_pk
  have h9 : (sp_unit e s m p - sp_least e s).toNat * 2 ^ (s - 1) ≤ 2000 * 1024 := Nat.mul_le_mul (by omega) hb.2.2.2.2.1
  omega
theorem packM_lN {e s md m : Nat} {p : Int} (ok : fw_ok e s) (hmd : md < 5) (neg n i : Bool) (h : qk_in m p) : fm_X0_packMagnitude (fm_X0_init_0 (nI e) (nI s)) (fm_X0_init_1 (nI e) (nI s)) (fm_X0_init_2 (nI e) (nI s)) (fm_X0_init_3 (nI e) (nI s)) (fm_X0_init_4 (nI e) (nI s)) (fm_X0_init_5 (nI e) (nI s)) (nI md) n i (fc_bit neg) (iL p) (lN m) = lN (sp_pk e s md neg m p false) := by
  have hu := unit_b ok h
  have hl := l_ok ok
  have hs := shl_b ok h
  have h4 := ok.2.2.2
  have hg := sp_unit_ge e s m p
  obtain ⟨h0, h1, h2, h3⟩ := h
  have hlg := log2_lt h0 h1
  unfold fm_X0_packMagnitude
  dsimp only
  have hx : fg_choose (fg_below (fg_diff (fg_sum (iL p) (fg_top (lN m))) (fm_X0_init_1 (nI e) (nI s)).toInt64) (fm_X0_init_5 (nI e) (nI s)).toInt64) (fm_X0_init_5 (nI e) (nI s)).toInt64 (fg_diff (fg_sum (iL p) (fg_top (lN m))) (fm_X0_init_1 (nI e) (nI s)).toInt64) = iL (sp_unit e s m p) := by
    rw [fg_top_lN h0 (by omega), c1_ok ok, c5_ok ok, nI_l (by omega), iI_L (by omega) (by omega), fg_sum_eq, fg_diff_eq, iL_N, iL_N, iL_add, iL_sub, fg_below_bit, fg_choose_bit, ite_dt, iL_sub, show (0 : Int64) = iL 0 from rfl]
    unfold sp_unit
    by_cases hc : p + m.log2 - (s - 1 : Nat) < sp_least e s
    · rw [if_pos hc, if_pos ((iL_lt (by omega) (by omega) (by omega) (by omega)).mpr (by omega))]
    · rw [if_neg hc, if_neg (fun q => hc (by have := (iL_lt (by omega) (by omega) (by omega) (by omega)).mp q; omega))]
  rw [hx, round_lN hmd (by omega) neg n i (by omega) (by omega) (by omega) (by omega) (by omega) (by omega) hs, c5_ok ok, c1_ok ok, iI_L (by omega) (by omega), fg_diff_eq, fg_sum_eq, iL_sub, iL_toNat (by omega), fc_lN_shl _ (by omega), lN_add]
  rfl
theorem signed_lN {e s M : Nat} (ok : fw_ok e s) (hM : M < 2 ^ (e + s - 1)) (neg : Bool) : fm_X0_signed (fm_X0_init_0 (nI e) (nI s)) (fm_X0_init_1 (nI e) (nI s)) (fm_X0_init_2 (nI e) (nI s)) (fm_X0_init_3 (nI e) (nI s)) (fm_X0_init_4 (nI e) (nI s)) (fm_X0_init_5 (nI e) (nI s)) (fc_bit neg) (lN M) = nI (neg.toNat * 2 ^ (e + s - 1) + M) := by
  have hb := b_ok ok
  have h2 := ok.2.1
  have h3 := ok.2.2.2
  have h1 := ok.1
  have hn := Bool.toNat_le neg
  have hm : neg.toNat * 2 ^ (e + s - 1) ≤ 1 * 2 ^ (e + s - 1) := Nat.mul_le_mul_right _ hn
  unfold fm_X0_signed
  rw [c0_ok ok, show (1 : Int32) = nI 1 from rfl, nI_sub (by omega), fc_bit_lN, fc_lN_shl _ (by omega), fc_lN_or (by omega) (by omega), Nat.or_comm, fc_or_add hM, lN_32 (by omega)]
/-- a number, rounded and packed -/
def rnd (e s md : Nat) (neg : Bool) (m : Nat) (p : Int) (more : Bool) : Nat := neg.toNat * 2 ^ (e + s - 1) + (if m = 0 then 0 else sp_round e s md neg m p more)
theorem inf_pos {e s : Nat} (ok : fw_ok e s) : 1 ≤ sp_inf e s := by
  have hb := b_ok ok
  have h9 : 3 * 2 ≤ (2 ^ e - 1) * 2 ^ (s - 1) := Nat.mul_le_mul (by omega) (by omega)
  unfold sp_inf
  omega
theorem round_le (e s md : Nat) (neg : Bool) (m : Nat) (p : Int) (more : Bool) : sp_round e s md neg m p more ≤ sp_inf e s := by
  unfold sp_round
  split
  · omega
  · split <;> omega
theorem rnd_lt {e s md : Nat} (ok : fw_ok e s) (neg : Bool) (m : Nat) (p : Int) (more : Bool) : rnd e s md neg m p more < 65536 := by
  have hb := b_ok ok
  have hn := Bool.toNat_le neg
  have hm : neg.toNat * 2 ^ (e + s - 1) ≤ 1 * 2 ^ (e + s - 1) := Nat.mul_le_mul_right _ hn
  have hr := round_le e s md neg m p more
  unfold rnd
  split <;> omega
theorem isZero_f (sg ex : Int64) {m : Nat} (h : m < 2 ^ 62) : fm_X4_isZero false false sg ex (lN m) = decide (m = 0) := by
  unfold fm_X4_isZero
  rw [ite_jb, ite_jb, ite_f, ite_f, fg_any_lN (by omega), ite_n0 (by split <;> omega)]
  by_cases h0 : m = 0 <;> simp [h0]
theorem pack_fin {e s md m : Nat} {p : Int} (ok : fw_ok e s) (hmd : md < 5) (neg : Bool) (h : m = 0 ∨ qk_in m p) : fm_X0_pack (fm_X0_init_0 (nI e) (nI s)) (fm_X0_init_1 (nI e) (nI s)) (fm_X0_init_2 (nI e) (nI s)) (fm_X0_init_3 (nI e) (nI s)) (fm_X0_init_4 (nI e) (nI s)) (fm_X0_init_5 (nI e) (nI s)) (nI md) false false (fc_bit neg) (iL p) (lN m) = nI (rnd e s md neg m p false) := by
  have hb := b_ok ok
  have hi := inf_pos ok
  have hm : m < 2 ^ 62 := by
    rcases h with h | h
    · omega
    · have := h.2.1; omega
  unfold fm_X0_pack rnd
  rw [ite_jb, ite_jb, ite_f, ite_f, isZero_f _ _ hm, ite_jb, ite_dt]
  by_cases h0 : m = 0
  · rw [if_pos h0, if_pos h0, show (0 : Int64) = lN 0 from rfl, signed_lN ok (by omega)]
  · rw [if_neg h0, if_neg h0]
    have hk := h.resolve_left h0
    dsimp only
    have hp := qk_lt (md := md) (neg := neg) (more := false) ok hk
    rw [packM_lN ok hmd neg false false hk, ite_c0, fg_below_bit, ite_b1, ite_dt]
    unfold sp_round
    by_cases hc : sp_pk e s md neg m p false < sp_inf e s
    · rw [if_pos hc, if_pos (by rw [c3_ok ok, nI_l (by omega)]; exact (fc_lN_sub_neg (by omega) (by omega)).mpr hc), signed_lN ok (by omega)]
    · rw [if_neg hc, if_neg (by rw [c3_ok ok, nI_l (by omega)]; exact fun q => hc ((fc_lN_sub_neg (by omega) (by omega)).mp q)), endless_bit hmd, ite_jb]
      cases sp_end md neg with
      | true => rw [ite_t, ite_t, show (fm_X0_init_3 (nI e) (nI s)).toInt64 = lN (sp_inf e s) by rw [c3_ok ok, nI_l (by omega)], signed_lN ok (by omega)]
      | false => rw [ite_f, ite_f, show (fm_X0_init_3 (nI e) (nI s) - 1).toInt64 = lN (sp_inf e s - 1) by rw [c3_ok ok, show (1 : Int32) = nI 1 from rfl, nI_sub hi, nI_l (by omega)], signed_lN ok (by omega)]
theorem pack_inf {e s md : Nat} (ok : fw_ok e s) (neg : Bool) (ex m : Int64) : fm_X0_pack (fm_X0_init_0 (nI e) (nI s)) (fm_X0_init_1 (nI e) (nI s)) (fm_X0_init_2 (nI e) (nI s)) (fm_X0_init_3 (nI e) (nI s)) (fm_X0_init_4 (nI e) (nI s)) (fm_X0_init_5 (nI e) (nI s)) (nI md) false true (fc_bit neg) ex m = nI (neg.toNat * 2 ^ (e + s - 1) + sp_inf e s) := by
  have hb := b_ok ok
  unfold fm_X0_pack
  rw [ite_jb, ite_jb, ite_f, ite_t, show (fm_X0_init_3 (nI e) (nI s)).toInt64 = lN (sp_inf e s) by rw [c3_ok ok, nI_l (by omega)], signed_lN ok (by omega)]
theorem pack_nan {e s md : Nat} (ok : fw_ok e s) (i : Bool) (sg ex m : Int64) : fm_X0_pack (fm_X0_init_0 (nI e) (nI s)) (fm_X0_init_1 (nI e) (nI s)) (fm_X0_init_2 (nI e) (nI s)) (fm_X0_init_3 (nI e) (nI s)) (fm_X0_init_4 (nI e) (nI s)) (fm_X0_init_5 (nI e) (nI s)) (nI md) true i sg ex m = nI (sp_inf e s + 2 ^ (s - 2)) := by
  unfold fm_X0_pack
  rw [ite_jb, ite_t, c4_ok ok]
