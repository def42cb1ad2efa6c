/-! PURE: the quotient; reckon whole -/
theorem lN_div {a b : Nat} (ha : a < 2 ^ 62) (hb : b < 2 ^ 62) : lN a / lN b = lN (a / b) := by
  have hq : a / b < 2 ^ 62 := Nat.lt_of_le_of_lt (Nat.div_le_self a b) ha
  apply Int64.toInt_inj.mp
  rw [Int64.toInt_div, iL_N, iL_N, iL_N, iL_toInt (by omega) (by omega), iL_toInt (by omega) (by omega), ← Int.ofNat_tdiv]
  generalize a / b = q at *
  rw [iL_toInt (by omega) (by omega)]
  exact Int.bmod_eq_of_le (by omega) (by omega)
theorem lN_rem {a b : Nat} (ha : a < 2 ^ 62) (hb : b < 2 ^ 62) : lN a - lN a / lN b * lN b = lN (a % b) := by
  rw [lN_div ha hb, lN_mul, iL_N, iL_N, iL_N, iL_sub]
  congr 1
  have h := Nat.div_add_mod a b
  rw [Nat.mul_comm] at h
  omega
theorem quo_abs {e s md S Q r : Nat} {p : Int} {mo : Bool} (ok : fw_ok e s) (neg : Bool) (r1 : Q / 2 ^ 16 = S) (r2 : (mo || decide (Q % 2 ^ 16 ≠ 0)) = decide (r ≠ 0)) (hS1 : 2 ^ 13 ≤ S) : sp_round e s md neg (2 * S + (if r = 0 then 0 else 1)) (p - 25) false = sp_round e s md neg Q (p - 40) mo := by
  have hmk : (if r = 0 then 0 else 1) ≤ 1 := by split <;> decide
  have h3 := ok.2.2.2
  have h4 := ok.2.2.1
  have hlg : s ≤ S.log2 := by
    have : 13 ≤ S.log2 := (Nat.le_log2 (by omega)).mpr hS1
    omega
  have hd2 : (2 * S + (if r = 0 then 0 else 1)) / 2 ^ 1 = S := by omega
  have hm2 : decide ((2 * S + (if r = 0 then 0 else 1)) % 2 ^ 1 ≠ 0) = decide (r ≠ 0) := by
    by_cases h : r = 0
    · rw [if_pos h]
      exact decide_eq_decide.mpr ⟨fun q => absurd (by omega) q, fun q => absurd h q⟩
    · rw [if_neg h]
      exact decide_eq_decide.mpr ⟨fun _ => h, fun _ => by omega⟩
  rw [sp_round_less e s md neg (2 * S + (if r = 0 then 0 else 1)) (p - 25) false 1 (by rw [hd2]; exact hlg) (by omega), hd2, hm2]
  rw [sp_round_less e s md neg Q (p - 40) mo 16 (by rw [r1]; exact hlg) (by omega), r1, r2, Bool.false_or]
  congr 1
  omega
theorem quo_both {e s md mX mY : Nat} {p : Int} (ok : fw_ok e s) (neg : Bool) (hX0 : mX ≠ 0) (hX : mX < 2048) (hY0 : mY ≠ 0) (hY : mY < 2048) : ∃ S mk Q : Nat, mX * 2 ^ 24 / mY = S ∧ (if mX * 2 ^ 24 % mY = 0 then 0 else 1) = mk ∧ mX * 2 ^ 40 / mY = Q ∧ mk ≤ 1 ∧ 2 ^ 13 ≤ S ∧ S < 2 ^ 35 ∧ 2 ^ 13 ≤ Q ∧ Q < 2 ^ 51 ∧ sp_round e s md neg (2 * S + mk) (p - 25) false = sp_round e s md neg Q (p - 40) (decide (mX * 2 ^ 40 % mY ≠ 0)) := by
  obtain ⟨r1, r2⟩ := sp_quo mX (b := mY) (by omega)
  have hS1 : 2 ^ 13 ≤ mX * 2 ^ 24 / mY := by
    rw [Nat.le_div_iff_mul_le (by omega)]
    have h1 : 2 ^ 13 * mY ≤ 2 ^ 13 * 2047 := Nat.mul_le_mul_left _ (by omega)
    have h2 : 1 * 2 ^ 24 ≤ mX * 2 ^ 24 := Nat.mul_le_mul_right _ (by omega)
    exact Nat.le_trans h1 (Nat.le_trans (by decide) h2)
  have hS2 : mX * 2 ^ 24 / mY < 2 ^ 35 := Nat.lt_of_le_of_lt (Nat.div_le_self _ _) (Nat.lt_of_lt_of_le (Nat.mul_lt_mul_of_pos_right hX (by decide)) (by decide))
  have hQ2 : mX * 2 ^ 40 / mY < 2 ^ 51 := Nat.lt_of_le_of_lt (Nat.div_le_self _ _) (Nat.lt_of_lt_of_le (Nat.mul_lt_mul_of_pos_right hX (by decide)) (by decide))
  have hQ1 : 2 ^ 13 ≤ mX * 2 ^ 40 / mY := by
    have h1 : mX * 2 ^ 40 / mY / 2 ^ 16 ≤ mX * 2 ^ 40 / mY := Nat.div_le_self _ _
    rw [r1] at h1
    exact Nat.le_trans hS1 h1
  have hmk : (if mX * 2 ^ 24 % mY = 0 then 0 else 1) ≤ 1 := by split <;> decide
  refine ⟨_, _, _, rfl, rfl, rfl, hmk, hS1, hS2, hQ1, hQ2, quo_abs ok neg r1 r2 hS1⟩
theorem quo_fin {e s md mX mY : Nat} {pX pY : Int} (ok : fw_ok e s) (hmd : md < 5) (neg : Bool) (hX : mX < 2048) (hY : mY < 2048) (hY0 : mY ≠ 0) (hd1 : pX - pY ≤ 30) (hd2 : -30 ≤ pX - pY) (hd3 : sp_least e s - (pX - pY) ≤ 20) : ∃ N : Nat, N < 65536 ∧ pkv e s md (false, false, fc_bit neg, fg_diff (fg_diff (iL pX) (iL pY)) 25, fg_quo (fc_shl (lN mX) 24) (lN mY) 35) = nI N ∧ fm_X6_round (nI md) neg (fc_shl (lN mX) 40 / lN mY) (iI pX - iI pY - 40) (if lg_cmp (fc_shl (lN mX) 40 - fc_shl (lN mX) 40 / lN mY * lN mY) 0 = 0 then false else true) (nI (1000 + 100 * e + s)) = lN N := by
  have e24 : fc_shl (lN mX) 24 = lN (mX * 2 ^ 24) := fc_lN_shl (n := 24) mX (by decide)
  have e40 : fc_shl (lN mX) 40 = lN (mX * 2 ^ 40) := fc_lN_shl (n := 40) mX (by decide)
  have hA : mX * 2 ^ 40 < 2 ^ 62 := Nat.lt_of_lt_of_le (Nat.mul_lt_mul_of_pos_right hX (by decide)) (by decide)
  have hB : mX * 2 ^ 24 < 2 ^ 35 := Nat.lt_of_lt_of_le (Nat.mul_lt_mul_of_pos_right hX (by decide)) (by decide)
  have x24 : fg_diff (fg_diff (iL pX) (iL pY)) 25 = iL (pX - pY - 25) := by
    rw [fg_diff_eq, fg_diff_eq, iL_sub]
    exact iL_sub _ 25
  have x40 : iI pX - iI pY - 40 = iI (pX - pY - 40) := by
    rw [iI_sub]
    exact iI_sub _ 40
  have hr : mX * 2 ^ 40 % mY < 2 ^ 62 := Nat.lt_of_le_of_lt (Nat.mod_le _ _) hA
  rw [e24, e40, x24, x40, fg_quo_lN hB (by decide) (by omega) (by omega), lN_rem hA (by omega), lN_div hA (by omega), ite_n0 hr]
  have hmo : (if mX * 2 ^ 40 % mY = 0 then false else true) = decide (mX * 2 ^ 40 % mY ≠ 0) := by
    by_cases h : mX * 2 ^ 40 % mY = 0
    · rw [if_pos h, decide_eq_false (fun q => q h)]
    · rw [if_neg h, decide_eq_true h]
  rw [hmo]
  generalize pX - pY = p at *
  by_cases hX0 : mX = 0
  · subst hX0
    have z1 : 2 * (0 * 2 ^ 24 / mY) + (if 0 * 2 ^ 24 % mY = 0 then 0 else 1) = 0 := by
      rw [Nat.zero_mul, Nat.zero_div, Nat.zero_mod, if_pos rfl]
    have z2 : 0 * 2 ^ 40 / mY = 0 := by rw [Nat.zero_mul, Nat.zero_div]
    have z3 : decide (0 * 2 ^ 40 % mY ≠ 0) = false := decide_eq_false (fun q => q (by rw [Nat.zero_mul, Nat.zero_mod]))
    rw [z1, z2, z3]
    refine ⟨rnd e s md neg 0 0 false, rnd_lt ok _ _ _ _, ?_, mround_0 ok neg _ 0⟩
    refine Eq.trans (pack_fin (m := 0) ok hmd neg (Or.inl rfl)) ?_
    unfold rnd
    rw [if_pos rfl, if_pos rfl]
  · obtain ⟨S, mk, Q, h1, h2, h3, h4, h5, h6, h7, h8, h9⟩ := quo_both (md := md) (p := p) ok neg hX0 hX hY0 hY
    rw [h1, h2, h3]
    generalize decide (mX * 2 ^ 40 % mY ≠ 0) = mo at *
    have hl := l_ok ok
    refine ⟨rnd e s md neg (2 * S + mk) (p - 25) false, rnd_lt ok _ _ _ _, ?_, ?_⟩
    · exact pack_fin ok hmd neg (Or.inr ⟨by omega, by omega, by omega, by omega⟩)
    · rw [mround_lN ok hmd neg mo ⟨by omega, by omega, by omega, by omega, by omega⟩]
      unfold rnd
      rw [if_neg (by omega), if_neg (by omega), h9]
theorem quot_all {e s X Y md : Nat} (ok : fw_ok e s) (hmd : md < 5) (hnX : dx_nan e s X = false) (hnY : dx_nan e s Y = false) (a0 : Int32) (a1 : Int32) (a2 : Bool) (a3 : Int64) (a4 : Int32) (a5 : Bool) (a6 : Bool) : ∃ N : Nat, N < 65536 ∧ pkv e s md (quv (dx_val e s X) (dx_val e s Y)) = nI N ∧ fm_X6_arithmetic_s14 a0 a1 a2 a3 a4 a5 a6 49 (nI md) (lN X) (lN Y) (nI (1000 + 100 * e + s)) (lN (sp_inf e s + 2 ^ (s - 2))) (lN (2 ^ (e + s - 1))) (tk e s X a0 a1) (tk e s Y a0 a1) (dx_neg e s Y) (dx_neg e s X != dx_neg e s Y) (lN ((dx_neg e s X != dx_neg e s Y).toNat * 2 ^ (e + s - 1))) (lN (sp_inf e s)) = (lN N, tk e s Y a0 a1) := by
  have hb := b_ok ok
  have hl := l_ok ok
  have hmX := dx_m_lt (X := X) ok
  have hmY := dx_m_lt (X := Y) ok
  have hlt := sg_lt (M := sp_inf e s) ok (dx_neg e s X != dx_neg e s Y) (by omega)
  have hor := sign_or (M := sp_inf e s) ok (by omega) (dx_neg e s X != dx_neg e s Y)
  have hN : (dx_neg e s X != dx_neg e s Y).toNat * 2 ^ (e + s - 1) + sp_inf e s < 65536 := by
    have hn := Bool.toNat_le (dx_neg e s X != dx_neg e s Y)
    have hm3 : (dx_neg e s X != dx_neg e s Y).toNat * 2 ^ (e + s - 1) ≤ 1 * 2 ^ (e + s - 1) := Nat.mul_le_mul_right _ hn
    omega
  unfold fm_X6_arithmetic_s14
  rw [if_neg (by decide)]
  unfold fm_X6_arithmetic_s16 tk
  dsimp only
  rw [ite_jb, hnX, hnY]
  cases hiX : dx_inf e s X with
  | true =>
    rw [ite_t, val_inf hnX hiX]
    unfold fm_X6_arithmetic_s18
    dsimp only
    rw [ite_jb]
    cases hiY : dx_inf e s Y with
    | true =>
      rw [ite_t, val_inf hnY hiY]
      have hc : quv (false, true, fc_bit (dx_neg e s X), 0, 0) (false, true, fc_bit (dx_neg e s Y), 0, 0) = (true, false, 0, 0, 0) := rfl
      rw [hc]
      exact ⟨sp_inf e s + 2 ^ (s - 2), by omega, pack_nan ok _ _ _ _, rfl⟩
    | false =>
      rw [ite_f, val_fin hnY hiY]
      have hc : quv (false, true, fc_bit (dx_neg e s X), 0, 0) (false, false, fc_bit (dx_neg e s Y), iL (dx_p e s Y), lN (dx_m e s Y)) = (false, true, fc_bit (dx_neg e s X) ^^^ fc_bit (dx_neg e s Y), 0, 0) := rfl
      rw [hc]
      refine ⟨(dx_neg e s X != dx_neg e s Y).toNat * 2 ^ (e + s - 1) + sp_inf e s, hN, ?_, ?_⟩
      · show fm_X0_pack (fm_X0_init_0 (nI e) (nI s)) (fm_X0_init_1 (nI e) (nI s)) (fm_X0_init_2 (nI e) (nI s)) (fm_X0_init_3 (nI e) (nI s)) (fm_X0_init_4 (nI e) (nI s)) (fm_X0_init_5 (nI e) (nI s)) (nI md) false true (fc_bit (dx_neg e s X) ^^^ fc_bit (dx_neg e s Y)) 0 0 = _
        rw [xor_bit, pack_inf ok]
      · rw [← hor]; rfl
  | false =>
    rw [ite_f, val_fin hnX hiX]
    unfold fm_X6_arithmetic_s17
    dsimp only
    rw [ite_jb]
    cases hiY : dx_inf e s Y with
    | true =>
      rw [ite_t, val_inf hnY hiY]
      have hc : quv (false, false, fc_bit (dx_neg e s X), iL (dx_p e s X), lN (dx_m e s X)) (false, true, fc_bit (dx_neg e s Y), 0, 0) = (false, false, fc_bit (dx_neg e s X) ^^^ fc_bit (dx_neg e s Y), 0, 0) := by
        unfold quv fm_X2_quotient fm_X2_quotient_28
        dsimp only
        rw [isZero_f _ _ (m := dx_m e s X) (by omega)]
        by_cases h0 : dx_m e s X = 0
        · rw [decide_eq_true h0]; rfl
        · rw [decide_eq_false h0]; rfl
      rw [hc, xor_bit]
      have hr0 : ∀ c : Bool, rnd e s md c 0 0 false = c.toNat * 2 ^ (e + s - 1) := fun c => by unfold rnd; rw [if_pos rfl]; rfl
      refine ⟨rnd e s md (dx_neg e s X != dx_neg e s Y) 0 0 false, rnd_lt ok _ _ _ _, ?_, ?_⟩
      · show fm_X0_pack (fm_X0_init_0 (nI e) (nI s)) (fm_X0_init_1 (nI e) (nI s)) (fm_X0_init_2 (nI e) (nI s)) (fm_X0_init_3 (nI e) (nI s)) (fm_X0_init_4 (nI e) (nI s)) (fm_X0_init_5 (nI e) (nI s)) (nI md) false false (fc_bit (dx_neg e s X != dx_neg e s Y)) (iL 0) (lN 0) = _
        exact pack_fin ok hmd _ (Or.inl rfl)
      · rw [hr0]
        rfl
    | false =>
      rw [ite_f, val_fin hnY hiY]
      unfold fm_X6_arithmetic_s19
      dsimp only
      rw [ite_n0 (by omega)]
      have hc : quv (false, false, fc_bit (dx_neg e s X), iL (dx_p e s X), lN (dx_m e s X)) (false, false, fc_bit (dx_neg e s Y), iL (dx_p e s Y), lN (dx_m e s Y)) = if dx_m e s Y = 0 then (if dx_m e s X = 0 then (true, false, 0, 0, 0) else (false, true, fc_bit (dx_neg e s X) ^^^ fc_bit (dx_neg e s Y), 0, 0)) else (false, false, fc_bit (dx_neg e s X) ^^^ fc_bit (dx_neg e s Y), fg_diff (fg_diff (iL (dx_p e s X)) (iL (dx_p e s Y))) 25, fg_quo (fc_shl (lN (dx_m e s X)) 24) (lN (dx_m e s Y)) 35) := by
        unfold quv fm_X2_quotient fm_X2_quotient_28 fm_X2_quotient_46
        dsimp only
        rw [isZero_f _ _ (m := dx_m e s X) (by omega), isZero_f _ _ (m := dx_m e s Y) (by omega)]
        by_cases h0 : dx_m e s Y = 0
        · by_cases h1 : dx_m e s X = 0
          · rw [if_pos h0, if_pos h1, decide_eq_true h0, decide_eq_true h1]; rfl
          · rw [if_pos h0, if_neg h1, decide_eq_true h0, decide_eq_false h1]; rfl
        · by_cases h1 : dx_m e s X = 0
          · rw [if_neg h0, decide_eq_false h0, decide_eq_true h1]; rfl
          · rw [if_neg h0, decide_eq_false h0, decide_eq_false h1]; rfl
      rw [hc]
      by_cases hY0 : dx_m e s Y = 0
      · rw [if_pos hY0, if_pos hY0]
        unfold fm_X6_arithmetic_s21
        dsimp only
        rw [ite_n0 (by omega)]
        by_cases hX0 : dx_m e s X = 0
        · rw [if_pos hX0, if_pos hX0]
          exact ⟨sp_inf e s + 2 ^ (s - 2), by omega, pack_nan ok _ _ _ _, rfl⟩
        · rw [if_neg hX0, if_neg hX0]
          refine ⟨(dx_neg e s X != dx_neg e s Y).toNat * 2 ^ (e + s - 1) + sp_inf e s, hN, ?_, ?_⟩
          · show fm_X0_pack (fm_X0_init_0 (nI e) (nI s)) (fm_X0_init_1 (nI e) (nI s)) (fm_X0_init_2 (nI e) (nI s)) (fm_X0_init_3 (nI e) (nI s)) (fm_X0_init_4 (nI e) (nI s)) (fm_X0_init_5 (nI e) (nI s)) (nI md) false true (fc_bit (dx_neg e s X) ^^^ fc_bit (dx_neg e s Y)) 0 0 = _
            rw [xor_bit, pack_inf ok]
          · rw [← hor]; rfl
      · rw [if_neg hY0, if_neg hY0, xor_bit]
        have hd1 := p_diff (X := X) (Y := Y) ok
        have hd2 := p_diff (X := Y) (Y := X) ok
        obtain ⟨N, g0, g1, g2⟩ := quo_fin (pX := dx_p e s X) (pY := dx_p e s Y) ok hmd (dx_neg e s X != dx_neg e s Y) hmX hmY hY0 hd1.2 (by omega) (by omega)
        refine ⟨N, g0, g1, ?_⟩
        unfold fm_X6_arithmetic_s22 fm_X6_arithmetic_s23 fm_X6_arithmetic_s24
        dsimp only
        rw [g2]
theorem val_1 {e s X : Nat} : (dx_val e s X).1 = dx_nan e s X := by
  unfold dx_val
  cases dx_nan e s X with
  | true => rfl
  | false =>
    rw [ite_f]
    cases dx_inf e s X <;> rfl
theorem sm_nan (md : Nat) {u v : fw_V} (h : u.1 = true ∨ v.1 = true) : smv md u v = (true, false, 0, 0, 0) := by
  obtain ⟨n, i, g, x, m⟩ := u
  obtain ⟨n2, i2, g2, x2, m2⟩ := v
  dsimp only at h
  rcases h with rfl | rfl
  · rfl
  · cases n <;> rfl
theorem pr_nan {u v : fw_V} (h : u.1 = true ∨ v.1 = true) : prv u v = (true, false, 0, 0, 0) := by
  obtain ⟨n, i, g, x, m⟩ := u
  obtain ⟨n2, i2, g2, x2, m2⟩ := v
  dsimp only at h
  rcases h with rfl | rfl
  · rfl
  · cases n <;> rfl
theorem qu_nan {u v : fw_V} (h : u.1 = true ∨ v.1 = true) : quv u v = (true, false, 0, 0, 0) := by
  obtain ⟨n, i, g, x, m⟩ := u
  obtain ⟨n2, i2, g2, x2, m2⟩ := v
  dsimp only at h
  rcases h with rfl | rfl
  · rfl
  · cases n <;> rfl
def rcv (e s md k : Nat) (u v : fw_V) : Int32 := if nI k = 0 then pkv e s md (smv md u v) else if nI k = 1 then pkv e s md (smv md u (opv v)) else if nI k = 2 then pkv e s md (prv u v) else pkv e s md (quv u v)
theorem ar_all {e s X Y md k : Nat} (ok : fw_ok e s) (hX : X < 2 ^ (e + s)) (hY : Y < 2 ^ (e + s)) (hmd : md < 5) (hk : k ≤ 3) (a0 : Int32) (a1 : Int32) (a2 : Bool) (a3 : Int64) (a4 : Int32) (a5 : Bool) (a6 : Bool) : ∃ N : Nat, N < 65536 ∧ rcv e s md k (dx_val e s X) (dx_val e s Y) = nI N ∧ fm_X6_arithmetic a0 a1 a2 a3 a4 a5 a6 (46 + nI k) (nI md) (lN X) (lN Y) (nI (1000 + 100 * e + s)) = (lN N, tk e s Y a0 a1) := by
  rw [ar_start ok hX hY]
  have hb := b_ok ok
  by_cases hn : dx_nan e s X = true ∨ dx_nan e s Y = true
  · refine ⟨sp_inf e s + 2 ^ (s - 2), by omega, ?_, ?_⟩
    · have hU : (dx_val e s X).1 = true ∨ (dx_val e s Y).1 = true := by
        rw [val_1, val_1]
        exact hn
      have ho : (dx_val e s X).1 = true ∨ (opv (dx_val e s Y)).1 = true := hU
      have hp : pkv e s md (true, false, 0, 0, 0) = nI (sp_inf e s + 2 ^ (s - 2)) := pack_nan ok _ _ _ _
      unfold rcv
      rw [sm_nan md hU, sm_nan md ho, pr_nan hU, qu_nan hU, hp]
      split
      · rfl
      · split
        · rfl
        · split <;> rfl
    · rcases hn with h | h
      · rw [if_pos h]
      · by_cases hx : dx_nan e s X = true
        · rw [if_pos hx]
        · rw [if_neg hx, if_pos h]
  · have hnX : dx_nan e s X = false := by
      cases h : dx_nan e s X with
      | true => exact absurd (Or.inl h) hn
      | false => rfl
    have hnY : dx_nan e s Y = false := by
      cases h : dx_nan e s Y with
      | true => exact absurd (Or.inr h) hn
      | false => rfl
    rw [hnX, hnY, ite_f, ite_f]
    rcases (show k = 0 ∨ k = 1 ∨ k = 2 ∨ k = 3 by omega) with rfl | rfl | rfl | rfl
    · have hr : rcv e s md 0 (dx_val e s X) (dx_val e s Y) = pkv e s md (smv md (dx_val e s X) (dx_val e s Y)) := if_pos (by decide)
      rw [hr, show (46 : Int32) + nI 0 = 46 from by decide, if_neg (show ¬ (46 : Int32) = 47 by decide), vs_val hnX, vs_val hnY]
      exact sum_all ok hX hY hmd hnX hnY 46 (by decide) (dx_neg e s Y) (by rw [if_neg (show ¬ (46 : Int32) = 47 by decide)]) a0 a1 a2 a3 a4 a5 a6
    · have hr : rcv e s md 1 (dx_val e s X) (dx_val e s Y) = pkv e s md (smv md (dx_val e s X) (opv (dx_val e s Y))) := Eq.trans (if_neg (by decide)) (if_pos (by decide))
      rw [hr, show (46 : Int32) + nI 1 = 47 from by decide, if_pos rfl, op_val, hnY, ite_f, vs_val hnX]
      exact sum_all ok hX hY hmd hnX hnY 47 (by decide) (!dx_neg e s Y) (by rw [if_pos rfl]) a0 a1 a2 a3 a4 a5 a6
    · have hr : rcv e s md 2 (dx_val e s X) (dx_val e s Y) = pkv e s md (prv (dx_val e s X) (dx_val e s Y)) := Eq.trans (if_neg (by decide)) (Eq.trans (if_neg (by decide)) (if_pos (by decide)))
      rw [hr, show (46 : Int32) + nI 2 = 48 from by decide, if_neg (show ¬ (48 : Int32) = 47 by decide), mul_start ok 48 (nI md) (by decide)]
      exact prod_all ok hmd hnX hnY a0 a1 a2 a3 a4 a5 a6
    · have hr : rcv e s md 3 (dx_val e s X) (dx_val e s Y) = pkv e s md (quv (dx_val e s X) (dx_val e s Y)) := Eq.trans (if_neg (by decide)) (Eq.trans (if_neg (by decide)) (if_neg (by decide)))
      rw [hr, show (46 : Int32) + nI 3 = 49 from by decide, if_neg (show ¬ (49 : Int32) = 47 by decide), mul_start ok 49 (nI md) (by decide)]
      exact quot_all ok hmd hnX hnY a0 a1 a2 a3 a4 a5 a6
theorem ok_reckon : pf_reckon := by
  intro e s ok v hv p1 p2 p3 p4
  obtain ⟨a0, a1, a2, a3, a4, a5, a6⟩ := v
  dsimp only at hv ⊢
  subst hv
  have hc : (if jb (fm_X6_in p1 0 3) = 0 then false else if jb (fm_X6_in p2 0 4) = 0 then false else if jb (fm_X6_isFloat (nI (1000 + 100 * e + s)) a1 a2 a3 a4 a5 a6 p3 (nI (1000 + 100 * e + s))) = 0 then false else if jb (fm_X6_isFloat (nI (1000 + 100 * e + s)) a1 a2 a3 a4 a5 a6 p4 (nI (1000 + 100 * e + s))) = 0 then false else true) = fc_X5_reckon (fm_X0_init_0 (nI e) (nI s)) (fm_X0_init_1 (nI e) (nI s)) (fm_X0_init_2 (nI e) (nI s)) (fm_X0_init_3 (nI e) (nI s)) (fm_X0_init_4 (nI e) (nI s)) (fm_X0_init_5 (nI e) (nI s)) p1 p2 p3 p4 := by
    rw [isFloat_eq ok _ _ _ _ _ _ _ p3, isFloat_eq ok _ _ _ _ _ _ _ p4, show fm_X6_in p1 0 3 = fm_X5_isWithin p1 0 3 from rfl, show fm_X6_in p2 0 4 = fm_X5_isMode p2 from rfl]
    rfl
  unfold fm_X6_reckon
  rw [hc]
  cases hB : fc_X5_reckon (fm_X0_init_0 (nI e) (nI s)) (fm_X0_init_1 (nI e) (nI s)) (fm_X0_init_2 (nI e) (nI s)) (fm_X0_init_3 (nI e) (nI s)) (fm_X0_init_4 (nI e) (nI s)) (fm_X0_init_5 (nI e) (nI s)) p1 p2 p3 p4 with
  | false => exact ⟨rfl, rfl, fun h => by cases h⟩
  | true =>
    unfold fc_X5_reckon at hB
    rw [and_ite, and_ite, and_ite, and_ite] at hB
    obtain ⟨h1, h2⟩ := and_t hB
    obtain ⟨h2, h3⟩ := and_t h2
    obtain ⟨h3, h4⟩ := and_t h3
    obtain ⟨md, hmd, rfl⟩ := mode_of h2
    obtain ⟨X, hX, rfl⟩ := holds_of ok h3
    obtain ⟨Y, hY, rfl⟩ := holds_of ok (and_t h4).1
    obtain ⟨k, -, hk, rfl⟩ := within_of (lo := 0) (hi := 3) (by decide) (by decide) h1
    have hwx := w_lt ok hX
    have hwy := w_lt ok hY
    unfold fm_X6_reckon_s1
    rw [good_T]
    unfold fm_X6_reckon_s2
    dsimp only
    rw [ite_jb, ite_t]
    unfold fm_X6_reckon_s4
    dsimp only
    rw [nI_l (n := X) (Nat.lt_trans hwx (by decide)), nI_l (n := Y) (Nat.lt_trans hwy (by decide))]
    have hcls : fm_X5_reckon (fm_X0_init_0 (nI e) (nI s)) (fm_X0_init_1 (nI e) (nI s)) (fm_X0_init_2 (nI e) (nI s)) (fm_X0_init_3 (nI e) (nI s)) (fm_X0_init_4 (nI e) (nI s)) (fm_X0_init_5 (nI e) (nI s)) (nI k) (nI md) (nI X) (nI Y) = rcv e s md k (dx_val e s X) (dx_val e s Y) := by
      rw [← unpack_nI ok hX, ← unpack_nI ok hY]
      rfl
    rw [hcls]
    obtain ⟨N, hN, g1, g2⟩ := ar_all (X := X) (Y := Y) (md := md) (k := k) ok hX hY hmd hk (nI (1000 + 100 * e + s)) 0 a2 a3 a4 a5 a6
    rw [g1, g2]
    unfold fm_X6_reckon_s5
    refine ⟨rfl, rfl, fun _ => ?_⟩
    exact lN_32 (Nat.lt_trans hN (by decide))
