/-! PURE: change -/
def pkv (e s md : Nat) (v : fw_V) : Int32 := fm_X0_pack (fm_X0_init_0 (nI e) (nI s)) (fm_X0_init_1 (nI e) (nI s)) (fm_X0_init_2 (nI e) (nI s)) (fm_X0_init_3 (nI e) (nI s)) (fm_X0_init_4 (nI e) (nI s)) (fm_X0_init_5 (nI e) (nI s)) (nI md) v.1 v.2.1 v.2.2.1 v.2.2.2.1 v.2.2.2.2
def rtv (v : fw_V) : fw_V := fm_X2_root v.1 v.2.1 v.2.2.1 v.2.2.2.1 v.2.2.2.2
def whv (md : Nat) (v : fw_V) : fw_V := fm_X2_whole (nI md) v.1 v.2.1 v.2.2.1 v.2.2.2.1 v.2.2.2.2
theorem fin_lt {e s X : Nat} (hn : dx_nan e s X = false) (hi : dx_inf e s X = false) : dx_mag e s X < sp_inf e s := by
  unfold dx_nan at hn
  unfold dx_inf at hi
  have h1 := of_decide_eq_false hn
  have h2 := of_decide_eq_false hi
  omega
theorem inf_id {e s X : Nat} (ok : fw_ok e s) (hX : X < 2 ^ (e + s)) (hi : dx_inf e s X = true) : (dx_neg e s X).toNat * 2 ^ (e + s - 1) + sp_inf e s = X := by
  have h := dx_split ok hX
  unfold dx_inf at hi
  rw [of_decide_eq_true hi] at h
  exact h.symm
theorem zero_id {e s X md : Nat} {p : Int} {more : Bool} (ok : fw_ok e s) (hX : X < 2 ^ (e + s)) (h0 : dx_m e s X = 0) : rnd e s md (dx_neg e s X) 0 p more = X := by
  have h := dx_split ok hX
  rw [(dx_m0 ok).mp h0] at h
  unfold rnd
  rw [if_pos rfl]
  exact h.symm
theorem at_0 (md : Nat) (neg : Bool) (p : Int) : sp_at md neg 0 p 0 false = 0 := by
  unfold sp_at
  split
  · unfold sp_cut
    split
    · rfl
    · rw [Nat.zero_div, Nat.zero_div, Nat.zero_mod]
      simp [sp_up_0]
  · exact Nat.zero_mul _
theorem exact_id {e s X md : Nat} (ok : fw_ok e s) (hX : X < 2 ^ (e + s)) (hn : dx_nan e s X = false) (hi : dx_inf e s X = false) (hm : dx_m e s X ≠ 0) (hp : 0 ≤ dx_p e s X) : rnd e s md (dx_neg e s X) (sp_at md (dx_neg e s X) (dx_m e s X) (dx_p e s X) 0 false) 0 false = X := by
  have hb := b_ok ok
  have hl := l_ok ok
  have hfl := fin_lt hn hi
  have hfr := dx_frac_lt (s := s) (X := X)
  have hsp := dx_split ok hX
  have hms := dx_mag_split (X := X) ok
  have h5 := ok.2.2.1
  have hpf : dx_p e s X = sp_least e s + (if dx_fld e s X = 0 then 0 else (dx_fld e s X : Int) - 1) := rfl
  have hmf : dx_m e s X = if dx_fld e s X = 0 then dx_frac s X else dx_frac s X + 2 ^ (s - 1) := rfl
  have hf0 : dx_fld e s X ≠ 0 := by
    intro h
    rw [if_pos h] at hpf
    omega
  rw [if_neg hf0] at hpf hmf
  generalize dx_m e s X = m at *
  generalize dx_p e s X = p at *
  generalize dx_neg e s X = neg at *
  have hlg : m.log2 = s - 1 := by
    rw [Nat.log2_eq_iff hm]
    constructor
    · omega
    · rw [Nat.pow_succ]; omega
  obtain ⟨q, rfl⟩ : ∃ q : Nat, p = q := ⟨p.toNat, by omega⟩
  have hV : sp_at md neg m (q : Int) 0 false = m * 2 ^ q := by
    unfold sp_at
    by_cases h0 : (q : Int) ≤ 0
    · rw [if_pos h0]
      unfold sp_cut
      rw [if_pos (by omega), show q = 0 by omega, Nat.pow_zero, Nat.mul_one]
    · rw [if_neg h0]
      congr 2
  rw [hV]
  have hpp := Nat.pow_pos (n := q) (show 0 < 2 by decide)
  have hV0 : m * 2 ^ q ≠ 0 := Nat.mul_ne_zero hm (by omega)
  have hlv : (m * 2 ^ q).log2 = s - 1 + q := by
    rw [Nat.log2_eq_iff hV0]
    obtain ⟨g1, g2⟩ := (Nat.log2_eq_iff hm).mp hlg
    constructor
    · rw [Nat.pow_add]
      exact Nat.mul_le_mul_right _ g1
    · rw [show s - 1 + q + 1 = s - 1 + 1 + q by omega, Nat.pow_add]
      exact Nat.mul_lt_mul_of_pos_right g2 hpp
  have hu : sp_unit e s (m * 2 ^ q) 0 = q := by
    unfold sp_unit
    rw [hlv, if_neg (by omega)]
    omega
  have hat : sp_at md neg (m * 2 ^ q) 0 q false = m := by
    unfold sp_at
    rw [if_pos (by omega)]
    unfold sp_cut
    rw [show ((q : Int) - 0).toNat = q by omega]
    by_cases h0 : q = 0
    · rw [if_pos h0, h0, Nat.pow_zero, Nat.mul_one]
    · rw [if_neg h0, Nat.mul_div_cancel _ hpp]
      have e1 : m * 2 ^ q = (2 * m) * 2 ^ (q - 1) := by
        rw [show q = (q - 1) + 1 by omega, Nat.pow_succ]
        rw [show q - 1 + 1 - 1 = q - 1 by omega, Nat.mul_comm 2 m, Nat.mul_assoc, Nat.mul_comm (2 ^ (q - 1)) 2]
      rw [e1, Nat.mul_div_cancel _ (Nat.pow_pos (by decide)), Nat.mul_mod_left, Nat.mul_mod_right]
      rw [show decide (0 = 1) = false from rfl, show (decide ((0 : Nat) ≠ 0) || false) = false from rfl, sp_up_0]
      rfl
  unfold rnd
  rw [if_neg hV0]
  unfold sp_round sp_pk
  rw [hu, hat]
  have hk : ((q : Int) - sp_least e s).toNat = dx_fld e s X - 1 := by omega
  have hmul : (dx_fld e s X - 1) * 2 ^ (s - 1) + 2 ^ (s - 1) = dx_fld e s X * 2 ^ (s - 1) := by
    rw [← Nat.succ_mul]
    congr 1
    omega
  rw [hk, if_pos (by omega)]
  omega
theorem change_root {e s X md : Nat} (ok : fw_ok e s) (hX : X < 2 ^ (e + s)) (hmd : md < 5) (a0 : Int32) (a1 : Int32) (a2 : Bool) (a3 : Int64) (a4 : Int32) (a5 : Bool) (a6 : Bool) : ∃ N : Nat, N < 65536 ∧ pkv e s md (rtv (dx_val e s X)) = nI N ∧ (fm_X6_squareRoot a0 a1 a2 a3 a4 a5 a6 (nI md) (lN (dx_can e s X)) (nI (1000 + 100 * e + s))).1 = lN N ∧ (fm_X6_squareRoot a0 a1 a2 a3 a4 a5 a6 (nI md) (lN (dx_can e s X)) (nI (1000 + 100 * e + s))).2.1 = a0 ∧ (fm_X6_squareRoot a0 a1 a2 a3 a4 a5 a6 (nI md) (lN (dx_can e s X)) (nI (1000 + 100 * e + s))).2.2.1 = a1 := by
  have hb := b_ok ok
  have hl := l_ok ok
  have hw := w_lt ok hX
  have hm := dx_m_lt (X := X) ok
  have hp := dx_p_b (X := X) ok
  have hcl := can_lt ok hX
  unfold fm_X6_squareRoot
  rw [take_lN ok hcl, can_nan ok]
  unfold fm_X6_squareRoot_s1
  dsimp only
  rw [ite_jb]
  cases hn : dx_nan e s X with
  | true =>
    rw [ite_t, val_nan hn]
    refine ⟨sp_inf e s + 2 ^ (s - 2), by omega, ?_, ?_, rfl, rfl⟩
    · exact pack_nan ok _ _ _ _
    · show fm_X6_nan (fm_X6_exponent (nI (1000 + 100 * e + s))) (fm_X6_significand (nI (1000 + 100 * e + s))) = _
      rw [me_ok ok, ms_ok ok, mn_ok ok]
  | false =>
    rw [ite_f, can_id hn]
    unfold fm_X6_squareRoot_s2
    dsimp only
    rw [ite_jb]
    cases hi : dx_inf e s X with
    | true =>
      rw [ite_t, val_inf hn hi]
      unfold fm_X6_squareRoot_s5 fm_X6_squareRoot_46
      dsimp only
      rw [ite_jb]
      cases hg : dx_neg e s X with
      | true =>
        rw [ite_t]
        refine ⟨sp_inf e s + 2 ^ (s - 2), by omega, ?_, ?_, rfl, rfl⟩
        · exact pack_nan ok _ _ _ _
        · show fm_X6_nan (fm_X6_exponent (nI (1000 + 100 * e + s))) (fm_X6_significand (nI (1000 + 100 * e + s))) = _
          rw [me_ok ok, ms_ok ok, mn_ok ok]
      | false =>
        rw [ite_f]
        refine ⟨X, hw, ?_, rfl, rfl, rfl⟩
        have h9 := inf_id ok hX hi
        rw [hg] at h9
        refine Eq.trans (pack_inf ok false 0 0) ?_
        rw [h9]
    | false =>
      rw [ite_f, val_fin hn hi]
      unfold fm_X6_squareRoot_s4
      dsimp only
      rw [ite_n0 (by omega)]
      unfold rtv fm_X2_root
      dsimp only
      rw [isZero_f _ _ (m := dx_m e s X) (by omega), ite_jb, ite_f, ite_jb, ite_dt]
      by_cases h0 : dx_m e s X = 0
      · rw [if_pos h0, if_pos h0]
        refine ⟨X, hw, ?_, rfl, rfl, rfl⟩
        refine Eq.trans (pack_fin ok hmd _ (Or.inl h0)) ?_
        rw [h0, zero_id ok hX h0]
      · rw [if_neg h0, if_neg h0]
        unfold fm_X6_squareRoot_s7 fm_X6_squareRoot_46
        dsimp only
        simp only [ite_jb, ite_c0, ite_b1]
        cases hg : dx_neg e s X with
        | true =>
          simp only [ite_t]
          refine ⟨sp_inf e s + 2 ^ (s - 2), by omega, ?_, ?_, rfl, rfl⟩
          · exact pack_nan ok _ _ _ _
          · show fm_X6_nan (fm_X6_exponent (nI (1000 + 100 * e + s))) (fm_X6_significand (nI (1000 + 100 * e + s))) = _
            rw [me_ok ok, ms_ok ok, mn_ok ok]
        | false =>
          simp only [ite_f]
          obtain ⟨S, Q, mk, mq, h, r1, r2, r3, r4, r5, r6, r7, r8, r9, r10, r11, r12⟩ := root_both (md := md) ok h0 hm hp.1 hp.2
          have hmk := Bool.toNat_le mk
          unfold fm_X6_squareRoot_s8 fm_X6_squareRoot_s10 fm_X6_squareRoot_s12 fm_X6_squareRoot_s13 fm_X6_squareRoot_s14
          dsimp only
          rw [r3]
          unfold fm_X6_squareRoot_s15
          rw [r4]
          unfold fm_X6_squareRoot_s16
          dsimp only
          rw [r5]
          refine ⟨rnd e s md false (2 * S + mk.toNat) (h - 13) false, rnd_lt ok _ _ _ _, ?_, ?_, rfl, rfl⟩
          · rw [r1, r2]
            exact pack_fin ok hmd false (Or.inr ⟨by omega, by omega, by omega, by omega⟩)
          · refine Eq.trans (mround_lN ok hmd false mq ⟨by omega, by omega, by omega, by omega, by omega⟩) ?_
            unfold rnd
            rw [if_neg (by omega), if_neg (by omega), r12]
