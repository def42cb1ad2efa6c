/-! PURE: reckon -/
theorem sum_all {e s X Y md : Nat} (ok : fw_ok e s) (hX : X < 2 ^ (e + s)) (hY : Y < 2 ^ (e + s)) (hmd : md < 5) (hnX : dx_nan e s X = false) (hnY : dx_nan e s Y = false) (op : Int32) (h48 : ¬ 48 ≤ op) (b : Bool) (hbo : b = if op = 47 then !dx_neg e s Y else dx_neg e s Y) (a0 : Int32) (a1 : Int32) (a2 : Bool) (a3 : Int64) (a4 : Int32) (a5 : Bool) (a6 : Bool) : ∃ N : Nat, N < 65536 ∧ pkv e s md (smv md (dx_vs e s X (dx_neg e s X)) (dx_vs e s Y b)) = nI N ∧ fm_X6_arithmetic_s9 a0 a1 a2 a3 a4 a5 a6 op (nI md) (lN X) (lN Y) (nI (1000 + 100 * e + s)) (lN (sp_inf e s + 2 ^ (s - 2))) (lN (2 ^ (e + s - 1))) (tk e s X a0 a1) (tk e s Y a0 a1) b = (lN N, tk e s Y a0 a1) := by
  have hb := b_ok ok
  have hw := w_lt ok hX
  unfold fm_X6_arithmetic_s9
  rw [if_neg h48]
  unfold fm_X6_arithmetic_s11 tk
  dsimp only
  rw [ite_jb, hnX, hnY]
  cases hiX : dx_inf e s X with
  | true =>
    rw [ite_t]
    have idX := inf_id ok hX hiX
    have hcx : dx_vs e s X (dx_neg e s X) = (false, true, fc_bit (dx_neg e s X), 0, 0) := by rw [← vs_val hnX, val_inf hnX hiX]
    rw [hcx]
    unfold fm_X6_arithmetic_s46 fm_X6_arithmetic_131
    dsimp only
    rw [ite_jb, ite_t]
    unfold fm_X6_arithmetic_s66
    dsimp only
    rw [ite_jb]
    have h155 : ∀ (yi yn : Bool), fm_X6_arithmetic_155 a0 a1 a2 a3 a4 a5 a6 op (nI md) (lN X) (lN Y) (nI (1000 + 100 * e + s)) (lN (sp_inf e s + 2 ^ (s - 2))) (lN (2 ^ (e + s - 1))) (a0, a1, dx_neg e s X, lN (dx_m e s X), iI (dx_p e s X), true, false) (a0, a1, dx_neg e s Y, lN (dx_m e s Y), iI (dx_p e s Y), yi, yn) b = (lN X, a0, a1, dx_neg e s Y, lN (dx_m e s Y), iI (dx_p e s Y), yi, yn) := fun _ _ => rfl
    cases hiY : dx_inf e s Y with
    | false =>
      rw [ite_f]
      have hcy : dx_vs e s Y b = (false, false, fc_bit b, iL (dx_p e s Y), lN (dx_m e s Y)) := by unfold dx_vs; rw [hnY, ite_f, hiY, ite_f]
      rw [hcy]
      unfold fm_X6_arithmetic_s67
      refine ⟨X, hw, ?_, h155 _ _⟩
      refine Eq.trans (pack_inf ok (dx_neg e s X) 0 0) ?_
      rw [idX]
    | true =>
      rw [ite_t]
      have hcy : dx_vs e s Y b = (false, true, fc_bit b, 0, 0) := by unfold dx_vs; rw [hnY, ite_f, hiY, ite_t]
      rw [hcy]
      unfold fm_X6_arithmetic_s68
      dsimp only
      have hs : smv md (false, true, fc_bit (dx_neg e s X), 0, 0) (false, true, fc_bit b, 0, 0) = if dx_neg e s X = b then (false, true, fc_bit (dx_neg e s X), 0, 0) else (true, false, 0, 0, 0) := by
        cases dx_neg e s X <;> cases b <;> rfl
      rw [hs]
      by_cases hab : dx_neg e s X = b
      · rw [if_pos hab, if_pos ((eqb _ _).mpr hab)]
        unfold fm_X6_arithmetic_s69
        refine ⟨X, hw, ?_, h155 _ _⟩
        refine Eq.trans (pack_inf ok (dx_neg e s X) 0 0) ?_
        rw [idX]
      · rw [if_neg hab, if_neg (fun q => hab ((eqb _ _).mp q))]
        exact ⟨sp_inf e s + 2 ^ (s - 2), by omega, pack_nan ok _ _ _ _, rfl⟩
  | false =>
    rw [ite_f]
    have hcx : dx_vs e s X (dx_neg e s X) = (false, false, fc_bit (dx_neg e s X), iL (dx_p e s X), lN (dx_m e s X)) := by rw [← vs_val hnX, val_fin hnX hiX]
    rw [hcx]
    unfold fm_X6_arithmetic_s45
    dsimp only
    rw [ite_jb]
    cases hiY : dx_inf e s Y with
    | true =>
      rw [ite_t]
      have hcy : dx_vs e s Y b = (false, true, fc_bit b, 0, 0) := by unfold dx_vs; rw [hnY, ite_f, hiY, ite_t]
      rw [hcy]
      have idY := inf_id ok hY hiY
      have hmg : dx_mag e s Y = sp_inf e s := by unfold dx_inf at hiY; exact of_decide_eq_true hiY
      have hn := Bool.toNat_le b
      have hm3 : b.toNat * 2 ^ (e + s - 1) ≤ 1 * 2 ^ (e + s - 1) := Nat.mul_le_mul_right _ hn
      refine ⟨b.toNat * 2 ^ (e + s - 1) + sp_inf e s, by omega, pack_inf ok b 0 0, ?_⟩
      unfold fm_X6_arithmetic_s48 fm_X6_arithmetic_131
      dsimp only
      rw [ite_jb, ite_f]
      unfold fm_X6_arithmetic_s65 fm_X6_arithmetic_155
      dsimp only
      rw [ite_jb, ite_f]
      unfold fm_X6_arithmetic_s71 fm_X6_arithmetic_s73 fm_X6_arithmetic_s74
      dsimp only
      by_cases h47 : op = 47
      · rw [if_pos h47] at hbo
        rw [if_pos h47, xor_sb ok hY, ← hbo, hmg]
      · rw [if_neg h47] at hbo
        rw [if_neg h47, hbo, idY]
    | false =>
      rw [ite_f]
      have hcy : dx_vs e s Y b = (false, false, fc_bit b, iL (dx_p e s Y), lN (dx_m e s Y)) := by unfold dx_vs; rw [hnY, ite_f, hiY, ite_f]
      rw [hcy]
      obtain ⟨N, hN, g1, g2⟩ := sum_fin (X := X) (Y := Y) ok hmd (dx_neg e s X) b op a0 a1 a2 a3 a4 a5 a6 (lN (sp_inf e s + 2 ^ (s - 2))) (lN X) (lN Y) false (dx_neg e s Y)
      exact ⟨N, hN, g1, g2⟩
theorem xor_bit (a b : Bool) : fc_bit a ^^^ fc_bit b = fc_bit (a != b) := by cases a <;> cases b <;> decide
theorem neb (a b : Bool) : (if jb a = jb b then false else true) = (a != b) := by cases a <;> cases b <;> rfl
theorem sb_or {e s : Nat} (ok : fw_ok e s) (c : Bool) : (if jb c = 0 then 0 else lN (2 ^ (e + s - 1))) = lN (c.toNat * 2 ^ (e + s - 1)) := by
  cases c with
  | true => rw [ite_jb, ite_t, show true.toNat * 2 ^ (e + s - 1) = 2 ^ (e + s - 1) by simp]
  | false => rw [ite_jb, ite_f, show false.toNat * 2 ^ (e + s - 1) = 0 by simp]; rfl
theorem inf_const {e s : Nat} (ok : fw_ok e s) : fc_shl (fm_X6_mask (fm_X6_exponent (nI (1000 + 100 * e + s)))) (fm_X6_significand (nI (1000 + 100 * e + s)) - 1) = lN (sp_inf e s) := by
  rw [me_ok ok, ms_ok ok, show nI s - 1 = nI (s - 1) from nI_sub (b := 1) (by have := ok.2.2.1; omega), (over_ok ok).2]
/-- product and quotient up to their own text -/
theorem mul_start {e s X Y : Nat} (ok : fw_ok e s) (op md : Int32) (h48 : 48 ≤ op) (b : Bool) (a0 : Int32) (a1 : Int32) (a2 : Bool) (a3 : Int64) (a4 : Int32) (a5 : Bool) (a6 : Bool) (p3 p4 x1 : Int64) : fm_X6_arithmetic_s9 a0 a1 a2 a3 a4 a5 a6 op md p3 p4 (nI (1000 + 100 * e + s)) x1 (lN (2 ^ (e + s - 1))) (tk e s X a0 a1) (tk e s Y a0 a1) b = fm_X6_arithmetic_s14 a0 a1 a2 a3 a4 a5 a6 op md p3 p4 (nI (1000 + 100 * e + s)) x1 (lN (2 ^ (e + s - 1))) (tk e s X a0 a1) (tk e s Y a0 a1) b (dx_neg e s X != b) (lN ((dx_neg e s X != b).toNat * 2 ^ (e + s - 1))) (lN (sp_inf e s)) := by
  unfold fm_X6_arithmetic_s9
  rw [if_pos h48]
  unfold fm_X6_arithmetic_s10
  rw [show (tk e s X a0 a1).2.2.1 = dx_neg e s X from rfl, neb]
  unfold fm_X6_arithmetic_s12
  rw [sb_or ok]
  unfold fm_X6_arithmetic_s13
  rw [inf_const ok]
theorem prod_all {e s X Y md : Nat} (ok : fw_ok e s) (hmd : md < 5) (hnX : dx_nan e s X = false) (hnY : dx_nan e s Y = false) (a0 : Int32) (a1 : Int32) (a2 : Bool) (a3 : Int64) (a4 : Int32) (a5 : Bool) (a6 : Bool) : ∃ N : Nat, N < 65536 ∧ pkv e s md (prv (dx_val e s X) (dx_val e s Y)) = nI N ∧ fm_X6_arithmetic_s14 a0 a1 a2 a3 a4 a5 a6 48 (nI md) (lN X) (lN Y) (nI (1000 + 100 * e + s)) (lN (sp_inf e s + 2 ^ (s - 2))) (lN (2 ^ (e + s - 1))) (tk e s X a0 a1) (tk e s Y a0 a1) (dx_neg e s Y) (dx_neg e s X != dx_neg e s Y) (lN ((dx_neg e s X != dx_neg e s Y).toNat * 2 ^ (e + s - 1))) (lN (sp_inf e s)) = (lN N, tk e s Y a0 a1) := by
  have hb := b_ok ok
  have hl := l_ok ok
  have hmX := dx_m_lt (X := X) ok
  have hmY := dx_m_lt (X := Y) ok
  have hpX := dx_p_b (X := X) ok
  have hpY := dx_p_b (X := Y) ok
  have hlt := sg_lt (M := sp_inf e s) ok (dx_neg e s X != dx_neg e s Y) (by omega)
  have hor := sign_or (M := sp_inf e s) ok (by omega) (dx_neg e s X != dx_neg e s Y)
  have hN : (dx_neg e s X != dx_neg e s Y).toNat * 2 ^ (e + s - 1) + sp_inf e s < 65536 := by
    have hn := Bool.toNat_le (dx_neg e s X != dx_neg e s Y)
    have hm3 : (dx_neg e s X != dx_neg e s Y).toNat * 2 ^ (e + s - 1) ≤ 1 * 2 ^ (e + s - 1) := Nat.mul_le_mul_right _ hn
    omega
  unfold fm_X6_arithmetic_s14
  rw [if_pos (by decide)]
  unfold fm_X6_arithmetic_s15 tk
  dsimp only
  rw [ite_jb, hnX, hnY]
  cases hiX : dx_inf e s X with
  | true =>
    rw [ite_t, val_inf hnX hiX]
    unfold fm_X6_arithmetic_s30 fm_X6_arithmetic_406
    dsimp only
    rw [ite_jb, ite_t]
    unfold fm_X6_arithmetic_s34
    dsimp only
    rw [ite_jb]
    cases hiY : dx_inf e s Y with
    | true =>
      rw [ite_t, val_inf hnY hiY]
      refine ⟨(dx_neg e s X != dx_neg e s Y).toNat * 2 ^ (e + s - 1) + sp_inf e s, hN, ?_, ?_⟩
      · show fm_X0_pack (fm_X0_init_0 (nI e) (nI s)) (fm_X0_init_1 (nI e) (nI s)) (fm_X0_init_2 (nI e) (nI s)) (fm_X0_init_3 (nI e) (nI s)) (fm_X0_init_4 (nI e) (nI s)) (fm_X0_init_5 (nI e) (nI s)) (nI md) false true (fc_bit (dx_neg e s X) ^^^ fc_bit (dx_neg e s Y)) 0 0 = _
        rw [xor_bit, pack_inf ok]
      · rw [← hor]; rfl
    | false =>
      rw [ite_f, val_fin hnY hiY]
      unfold fm_X6_arithmetic_s35
      dsimp only
      rw [ite_n0 (by omega)]
      have hc : prv (false, true, fc_bit (dx_neg e s X), 0, 0) (false, false, fc_bit (dx_neg e s Y), iL (dx_p e s Y), lN (dx_m e s Y)) = if dx_m e s Y = 0 then (true, false, 0, 0, 0) else (false, true, fc_bit (dx_neg e s X) ^^^ fc_bit (dx_neg e s Y), 0, 0) := by
        unfold prv fm_X2_product fm_X2_product_42
        dsimp only
        rw [isZero_f _ _ (m := dx_m e s Y) (by omega)]
        by_cases h0 : dx_m e s Y = 0
        · rw [if_pos h0, decide_eq_true h0]; rfl
        · rw [if_neg h0, decide_eq_false h0]; rfl
      rw [hc]
      by_cases h0 : dx_m e s Y = 0
      · rw [if_pos h0, if_pos h0]
        exact ⟨sp_inf e s + 2 ^ (s - 2), by omega, pack_nan ok _ _ _ _, rfl⟩
      · rw [if_neg h0, if_neg h0]
        refine ⟨(dx_neg e s X != dx_neg e s Y).toNat * 2 ^ (e + s - 1) + sp_inf e s, hN, ?_, ?_⟩
        · show fm_X0_pack (fm_X0_init_0 (nI e) (nI s)) (fm_X0_init_1 (nI e) (nI s)) (fm_X0_init_2 (nI e) (nI s)) (fm_X0_init_3 (nI e) (nI s)) (fm_X0_init_4 (nI e) (nI s)) (fm_X0_init_5 (nI e) (nI s)) (nI md) false true (fc_bit (dx_neg e s X) ^^^ fc_bit (dx_neg e s Y)) 0 0 = _
          rw [xor_bit, pack_inf ok]
        · rw [← hor]; rfl
  | false =>
    rw [ite_f, val_fin hnX hiX]
    unfold fm_X6_arithmetic_s29
    dsimp only
    rw [ite_jb]
    cases hiY : dx_inf e s Y with
    | true =>
      rw [ite_t, val_inf hnY hiY]
      unfold fm_X6_arithmetic_s32 fm_X6_arithmetic_406
      dsimp only
      rw [ite_jb, ite_f]
      unfold fm_X6_arithmetic_s33 fm_X6_arithmetic_427
      dsimp only
      rw [ite_jb, ite_t]
      unfold fm_X6_arithmetic_s40
      dsimp only
      rw [ite_jb, ite_f]
      unfold fm_X6_arithmetic_s41
      dsimp only
      rw [ite_n0 (by omega)]
      have hc : prv (false, false, fc_bit (dx_neg e s X), iL (dx_p e s X), lN (dx_m e s X)) (false, true, fc_bit (dx_neg e s Y), 0, 0) = if dx_m e s X = 0 then (true, false, 0, 0, 0) else (false, true, fc_bit (dx_neg e s X) ^^^ fc_bit (dx_neg e s Y), 0, 0) := by
        unfold prv fm_X2_product fm_X2_product_42
        dsimp only
        rw [isZero_f _ _ (m := dx_m e s X) (by omega)]
        by_cases h0 : dx_m e s X = 0
        · rw [if_pos h0, decide_eq_true h0]; rfl
        · rw [if_neg h0, decide_eq_false h0]; rfl
      rw [hc]
      by_cases h0 : dx_m e s X = 0
      · rw [if_pos h0, if_pos h0]
        exact ⟨sp_inf e s + 2 ^ (s - 2), by omega, pack_nan ok _ _ _ _, rfl⟩
      · rw [if_neg h0, if_neg h0]
        refine ⟨(dx_neg e s X != dx_neg e s Y).toNat * 2 ^ (e + s - 1) + sp_inf e s, hN, ?_, ?_⟩
        · show fm_X0_pack (fm_X0_init_0 (nI e) (nI s)) (fm_X0_init_1 (nI e) (nI s)) (fm_X0_init_2 (nI e) (nI s)) (fm_X0_init_3 (nI e) (nI s)) (fm_X0_init_4 (nI e) (nI s)) (fm_X0_init_5 (nI e) (nI s)) (nI md) false true (fc_bit (dx_neg e s X) ^^^ fc_bit (dx_neg e s Y)) 0 0 = _
          rw [xor_bit, pack_inf ok]
        · rw [← hor]; rfl
    | false =>
      rw [ite_f, val_fin hnY hiY]
      have hmm : dx_m e s X * dx_m e s Y < 2 ^ 22 := by
        have : dx_m e s X * dx_m e s Y ≤ 2047 * 2047 := Nat.mul_le_mul (by omega) (by omega)
        omega
      have hc : prv (false, false, fc_bit (dx_neg e s X), iL (dx_p e s X), lN (dx_m e s X)) (false, false, fc_bit (dx_neg e s Y), iL (dx_p e s Y), lN (dx_m e s Y)) = (false, false, fc_bit (dx_neg e s X) ^^^ fc_bit (dx_neg e s Y), fg_sum (iL (dx_p e s X)) (iL (dx_p e s Y)), fg_prod_it (lN (dx_m e s X)) (lN (dx_m e s Y)) 11) := rfl
      rw [hc, xor_bit, fg_sum_eq, iL_add, fg_prod_u _ (by omega) 11 (by decide), Nat.mod_eq_of_lt (a := dx_m e s Y) (b := 2 ^ 11) (by omega)]
      unfold fm_X6_arithmetic_s31
      dsimp only
      rw [lN_mul, iI_add]
      refine ⟨rnd e s md (dx_neg e s X != dx_neg e s Y) (dx_m e s X * dx_m e s Y) (dx_p e s X + dx_p e s Y) false, rnd_lt ok _ _ _ _, ?_, ?_⟩
      · refine pack_fin ok hmd _ ?_
        by_cases h0 : dx_m e s X * dx_m e s Y = 0
        · exact Or.inl h0
        · exact Or.inr ⟨h0, by omega, by omega, by omega⟩
      · rw [mround_or ok hmd]
        by_cases h0 : dx_m e s X * dx_m e s Y = 0
        · exact Or.inl h0
        · exact Or.inr ⟨h0, by omega, by omega, by omega, by omega⟩
