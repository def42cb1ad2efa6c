/-! PURE: the root -/
theorem fr_it_u {v : Nat} (hv : v < 2 ^ 60) : ∀ n, n ≤ 31 → ∀ r : Nat, r % 2 ^ n = 0 → r + 2 ^ n ≤ 2 ^ 31 → r * r ≤ v → v < (r + 2 ^ n) * (r + 2 ^ n) → ∃ q : Nat, q * q ≤ v ∧ v < (q + 1) * (q + 1) ∧ q < 2 ^ 31 ∧ fr_it (lN v) n (lN r) = lN q := by
  intro n
  induction n with
  | zero =>
    intro _ r _ h1 h2 h3
    exact ⟨r, h2, h3, by omega, rfl⟩
  | succ n ih =>
    intro hn r h0 h1 h2 h3
    have hp : (2 : Nat) ^ (n + 1) = 2 * 2 ^ n := Nat.pow_succ'
    have hpp := Nat.pow_pos (n := n) (show 0 < 2 by decide)
    have hor : lN r ||| lN (2 ^ n) = lN (r + 2 ^ n) := by
      have e1 : r = (r / 2 ^ (n + 1)) * 2 ^ (n + 1) := by
        have := Nat.div_add_mod r (2 ^ (n + 1))
        rw [h0, Nat.add_zero, Nat.mul_comm] at this
        exact this.symm
      rw [e1, fc_lN_or_add (by omega) (by rw [← e1]; omega)]
    have hm0 : r % 2 ^ n = 0 := by
      rw [hp] at h0
      have := Nat.mod_mul_left_mod r 2 (2 ^ n)
      rw [h0, Nat.zero_mod] at this
      exact this.symm
    have hb : (r + 2 ^ n) * (r + 2 ^ n) ≤ 2 ^ 31 * 2 ^ 31 := Nat.mul_le_mul (by omega) (by omega)
    unfold fr_it
    rw [hor, lN_mul, ite_cgt]
    have hc : (lN v < lN ((r + 2 ^ n) * (r + 2 ^ n))) ↔ v < (r + 2 ^ n) * (r + 2 ^ n) := by
      rw [iL_N, iL_N, iL_lt (by omega) (by omega) (by omega) (by omega)]
      omega
    by_cases h : v < (r + 2 ^ n) * (r + 2 ^ n)
    · rw [if_pos (hc.mpr h)]
      exact ih (by omega) r hm0 (by omega) h2 h
    · rw [if_neg (fun q => h (hc.mp q))]
      refine ih (by omega) (r + 2 ^ n) ?_ (by omega) (by omega) ?_
      · rw [Nat.add_mod_right]; exact hm0
      · rw [show r + 2 ^ n + 2 ^ n = r + 2 ^ (n + 1) by omega]; exact h3
theorem par_L {p : Int} (h1 : -100 ≤ p) (h2 : p ≤ 100) : iL p &&& 1 = fc_bit (decide (p % 2 = 1)) := by
  have key : ∀ k : Nat, k < 201 → iL ((k : Int) - 100) &&& 1 = fc_bit (decide (((k : Int) - 100) % 2 = 1)) := by decide +kernel
  have := key (p + 100).toNat (by omega)
  rw [show ((p + 100).toNat : Int) - 100 = p by omega] at this
  exact this
theorem par_I {p : Int} (h1 : -100 ≤ p) (h2 : p ≤ 100) : (iI p &&& 1 = 0) ↔ p % 2 = 0 := by
  have key : ∀ k : Nat, k < 201 → ((iI ((k : Int) - 100) &&& 1 = 0) ↔ ((k : Int) - 100) % 2 = 0) := by decide +kernel
  have := key (p + 100).toNat (by omega)
  rw [show ((p + 100).toNat : Int) - 100 = p by omega] at this
  exact this
theorem half_I {p : Int} (h1 : -100 ≤ p) (h2 : p ≤ 100) : iI (2 * p) / 2 = iI p := by
  have key : ∀ k : Nat, k < 201 → iI (2 * ((k : Int) - 100)) / 2 = iI ((k : Int) - 100) := by decide +kernel
  have := key (p + 100).toNat (by omega)
  rw [show ((p + 100).toNat : Int) - 100 = p by omega] at this
  exact this
set_option maxRecDepth 100000 in
/-- both roots of m * 2^p, rounded -/
theorem root_both {e s m md : Nat} {p : Int} (ok : fw_ok e s) (hm0 : m ≠ 0) (hm : m < 2048) (hp1 : -24 ≤ p) (hp2 : p ≤ 30) : ∃ (S Q : Nat) (mk mq : Bool) (h : Int), fg_root (fc_shl (fg_choose (iL p &&& 1) (fc_shl (lN m) 1) (lN m)) 24) 18 = lN (2 * S + mk.toNat) ∧ fg_diff (fc_shr (fg_diff (iL p) (iL p &&& 1)) 1) 13 = iL (h - 13) ∧ fr_it (if (iI p - 40) &&& 1 = 0 then fc_shl (lN m) 40 else fc_shl (fc_shl (lN m) 40) 1) 31 0 = lN Q ∧ (if lg_cmp (lN Q * lN Q) (if (iI p - 40) &&& 1 = 0 then fc_shl (lN m) 40 else fc_shl (fc_shl (lN m) 40) 1) = 0 then false else true) = mq ∧ (if (iI p - 40) &&& 1 = 0 then iI p - 40 else (iI p - 40) + (-1)) / 2 = iI (h - 20) ∧ -13 ≤ h ∧ h ≤ 15 ∧ 2 ^ 12 ≤ S ∧ S < 2 ^ 20 ∧ Q < 2 ^ 31 ∧ 2 ^ 20 ≤ Q ∧ sp_round e s md false (2 * S + mk.toNat) (h - 13) false = sp_round e s md false Q (h - 20) mq := by
  -- the square
  obtain ⟨d, hd, hpar⟩ : ∃ d : Nat, (d = 0 ∨ d = 1) ∧ p % 2 = d := ⟨(p % 2).toNat, by omega, by omega⟩
  have hM : m * 2 ^ d < 4096 := by rcases hd with rfl | rfl <;> omega
  have hM1 : 1 ≤ m * 2 ^ d := by rcases hd with rfl | rfl <;> omega
  have e1 : fc_shl (fg_choose (iL p &&& 1) (fc_shl (lN m) 1) (lN m)) 24 = lN (m * 2 ^ d * 2 ^ 24) := by
    rw [par_L (by omega) (by omega), fg_choose_bit]
    rcases hd with rfl | rfl
    · rw [decide_eq_false (by omega), ite_f, show (24 : Int32) = nI 24 from rfl, fc_lN_shl _ (by decide), Nat.pow_zero, Nat.mul_one]
    · rw [decide_eq_true (by omega), ite_t, show (24 : Int32) = nI 24 from rfl, show (1 : Int32) = nI 1 from rfl, fc_lN_shl _ (by decide), fc_lN_shl _ (by decide)]
  have e3 : (if (iI p - 40) &&& 1 = 0 then fc_shl (lN m) 40 else fc_shl (fc_shl (lN m) 40) 1) = lN (m * 2 ^ d * 2 ^ 40) := by
    rw [show iI p - 40 = iI (p - 40) from iI_sub p 40, show (40 : Int32) = nI 40 from rfl, fc_lN_shl _ (by decide)]
    rcases hd with rfl | rfl
    · rw [if_pos ((par_I (by omega) (by omega)).mpr (by omega)), Nat.pow_zero, Nat.mul_one]
    · rw [if_neg (fun q => by have := (par_I (by omega) (by omega)).mp q; omega), show (1 : Int32) = nI 1 from rfl, fc_lN_shl _ (by decide), Nat.mul_right_comm]
  have e4 : (if (iI p - 40) &&& 1 = 0 then iI p - 40 else (iI p - 40) + (-1)) / 2 = iI ((p - d) / 2 - 20) := by
    rw [show iI p - 40 = iI (p - 40) from iI_sub p 40]
    rcases hd with rfl | rfl
    · rw [if_pos ((par_I (by omega) (by omega)).mpr (by omega)), show p - 40 = 2 * ((p - (0 : Nat)) / 2 - 20) by omega, half_I (by omega) (by omega)]
    · rw [if_neg (fun q => by have := (par_I (by omega) (by omega)).mp q; omega), show (-1 : Int32) = iI (-1) from by decide, iI_add, show p - 40 + (-1) = 2 * ((p - (1 : Nat)) / 2 - 20) by omega, half_I (by omega) (by omega)]
  have e2 : fg_diff (fc_shr (fg_diff (iL p) (iL p &&& 1)) 1) 13 = iL ((p - d) / 2 - 13) := by
    have hb : iL p &&& 1 = iL d := by
      rw [par_L (by omega) (by omega)]
      rcases hd with rfl | rfl
      · rw [decide_eq_false (by omega)]; rfl
      · rw [decide_eq_true (by omega)]; rfl
    have hs : fc_shr (iL (p - d)) (nI 1) = iL ((p - d) / 2) := by
      apply Int64.toInt_inj.mp
      rw [fc_shr_toInt _ (by decide), iL_toInt (by omega) (by omega), iL_toInt (by omega) (by omega)]
      rfl
    rw [hb, fg_diff_eq, fg_diff_eq, iL_sub, show (1 : Int32) = nI 1 from rfl, hs, show (13 : Int64) = iL 13 from rfl, iL_sub]
  generalize hMM : m * 2 ^ d = M at *
  obtain ⟨S, s1, s2, s3⟩ := fg_root_lN (a := M * 2 ^ 24) (n := 18) (by omega) (by decide)
  have hV : M * 2 ^ 40 < 2 ^ 60 := Nat.lt_of_lt_of_le (Nat.mul_lt_mul_of_pos_right hM (by decide)) (by decide)
  have e40 : M * 2 ^ 24 * 2 ^ 16 = M * 2 ^ 40 := by rw [Nat.mul_assoc, show (2 : Nat) ^ 24 * 2 ^ 16 = 2 ^ 40 from by decide]
  obtain ⟨Q, q1, q2, q3, q4⟩ := fr_it_u (v := M * 2 ^ 40) hV 31 (by decide) 0 (by decide) (by decide) (Nat.zero_le _) (Nat.lt_trans hV (by decide))
  obtain ⟨r1, r2⟩ := sp_root (x := M * 2 ^ 24) (r := Q) (s := S) s1 s2 (by rw [e40]; exact q1) (by rw [e40]; exact q2)
  have hS1 : 2 ^ 12 ≤ S := by
    refine Nat.not_lt.mp (fun h => ?_)
    have : (S + 1) * (S + 1) ≤ 2 ^ 12 * 2 ^ 12 := Nat.mul_le_mul (by omega) (by omega)
    omega
  have hS2 : S < 2 ^ 20 := by
    refine Nat.not_le.mp (fun h => ?_)
    have : 2 ^ 20 * 2 ^ 20 ≤ S * S := Nat.mul_le_mul h h
    omega
  have hQ1 : 2 ^ 20 ≤ Q := by omega
  have hS0 : S ≠ 0 := by omega
  have h3 := ok.2.2.2
  have hlg : s ≤ S.log2 := by
    have : 12 ≤ S.log2 := (Nat.le_log2 hS0).mpr hS1
    omega
  refine ⟨S, Q, decide (S * S ≠ M * 2 ^ 24), decide (Q * Q ≠ M * 2 ^ 40), (p - d) / 2, ?_, e2, ?_, ?_, e4, by omega, by omega, hS1, hS2, q3, hQ1, ?_⟩
  · rw [e1, s3]
    congr 2
    by_cases h : S * S = M * 2 ^ 24 <;> simp [h]
  · rw [e3]; exact q4
  · rw [e3, lN_mul, ite_c0]
    have hQQ : Q * Q < 2 ^ 60 := Nat.lt_of_le_of_lt q1 hV
    have hc : (lN (Q * Q) = lN (M * 2 ^ 40)) ↔ Q * Q = M * 2 ^ 40 := fc_lN_eq (Nat.lt_trans hQQ (by decide)) (Nat.lt_trans hV (by decide))
    by_cases h : Q * Q = M * 2 ^ 40
    · rw [if_pos (hc.mpr h)]; simp [h]
    · rw [if_neg (fun q => h (hc.mp q))]; simp [h]
  · have hmk : (decide (S * S ≠ M * 2 ^ 24)).toNat ≤ 1 := Bool.toNat_le _
    have hd2 : (2 * S + (decide (S * S ≠ M * 2 ^ 24)).toNat) / 2 ^ 1 = S := by omega
    have hm2 : decide ((2 * S + (decide (S * S ≠ M * 2 ^ 24)).toNat) % 2 ^ 1 ≠ 0) = decide (S * S ≠ M * 2 ^ 24) := by
      by_cases h : S * S = M * 2 ^ 24
      · simp [h]
      · simp [h]
    rw [sp_round_less e s md false (2 * S + (decide (S * S ≠ M * 2 ^ 24)).toNat) ((p - d) / 2 - 13) false 1 (by rw [hd2]; exact hlg) (by have := ok.2.2.1; omega), hd2, hm2]
    rw [sp_round_less e s md false Q ((p - d) / 2 - 20) (decide (Q * Q ≠ M * 2 ^ 40)) 8 (by rw [r1]; exact hlg) (by have := ok.2.2.1; omega), r1]
    rw [← e40, r2, Bool.false_or]
    congr 1
    omega
