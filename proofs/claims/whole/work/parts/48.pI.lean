/-! PURE: compare, is -/
theorem nI_xor0 {X Y : Nat} (hX : X < 65536) (hY : Y < 65536) : ((nI X ^^^ nI Y).toInt64 = 0) ↔ X = Y := by
  have h1 : ((nI X ^^^ nI Y).toInt64 = 0) ↔ nI X ^^^ nI Y = 0 := by
    rw [← Int64.toInt_inj, Int32.toInt_toInt64, ← Int32.toInt_inj]
    rfl
  rw [h1, Int32.xor_eq_zero_iff, nI_eq (by omega) (by omega)]
def cmpv (op z : Int32) : Bool := if z = 2 then false else (if op = 54 then (if 0 < z then false else true) else (if op = 55 then (if 0 ≤ z then false else true) else (if op = 56 then (if z < 0 then false else true) else (if op = 57 then (if z ≤ 0 then false else true) else (if z = 0 then true else false)))))
theorem compared_lN {e s X Y : Nat} (ok : fw_ok e s) (hX : X < 2 ^ (e + s)) (hY : Y < 2 ^ (e + s)) (op : Int32) (a0 : Int32) (a1 : Int32) (a2 : Bool) (a3 : Int64) (a4 : Int32) (a5 : Bool) (a6 : Bool) : fm_X6_compared a0 a1 a2 a3 a4 a5 a6 op (lN X) (lN Y) (nI (1000 + 100 * e + s)) = (jl (cmpv op (ordv e s X Y)), a0, a1, dx_neg e s Y, lN (dx_m e s Y), iI (dx_p e s Y), dx_inf e s Y, dx_nan e s Y) := by
  unfold fm_X6_compared
  rw [order_lN ok hX hY]
  unfold fm_X6_compared_s1
  dsimp only
  rw [show (if ordv e s X Y = 2 then false else (if op = 54 then (if 0 < ordv e s X Y then false else true) else (if op = 55 then (if 0 ≤ ordv e s X Y then false else true) else (if op = 56 then (if ordv e s X Y < 0 then false else true) else (if op = 57 then (if ordv e s X Y ≤ 0 then false else true) else (if ordv e s X Y = 0 then true else false)))))) = cmpv op (ordv e s X Y) from rfl]
  cases cmpv op (ordv e s X Y) <;> rfl
theorem is_of {e s X Y : Nat} (ok : fw_ok e s) : cmpv 55 (ordv e s X Y) = (!dx_nan e s X && (!dx_nan e s Y && decide (dx_rk e s X < dx_rk e s Y))) ∧ cmpv 54 (ordv e s X Y) = (!dx_nan e s X && (!dx_nan e s Y && !decide (dx_rk e s Y < dx_rk e s X))) ∧ cmpv 58 (ordv e s X Y) = (!dx_nan e s X && (!dx_nan e s Y && (!decide (dx_rk e s X < dx_rk e s Y) && !decide (dx_rk e s Y < dx_rk e s X)))) := by
  unfold ordv
  cases dx_nan e s X with
  | true => exact ⟨rfl, rfl, rfl⟩
  | false =>
    cases dx_nan e s Y with
    | true => exact ⟨rfl, rfl, rfl⟩
    | false =>
      rw [ite_f, ite_f]
      by_cases g1 : dx_rk e s X < dx_rk e s Y
      · have g2 : ¬ dx_rk e s Y < dx_rk e s X := by omega
        rw [if_pos g1, decide_eq_true g1, decide_eq_false g2]
        exact ⟨rfl, rfl, rfl⟩
      · rw [if_neg g1, decide_eq_false g1]
        by_cases g2 : dx_rk e s Y < dx_rk e s X
        · rw [if_pos g2, decide_eq_true g2]
          exact ⟨rfl, rfl, rfl⟩
        · rw [if_neg g2, decide_eq_false g2]
          exact ⟨rfl, rfl, rfl⟩
theorem jl_1 (b : Bool) : (lg_cmp (jl b) 1 = 0) ↔ b = true := by cases b <;> decide
theorem ok_compare : pf_compare := by
  intro e s ok v hv p1 p2 p3
  obtain ⟨a0, a1, a2, a3, a4, a5, a6⟩ := v
  dsimp only at hv ⊢
  subst hv
  have hc : (if jb (fm_X6_in p1 0 3) = 0 then false else if jb (fm_X6_isFloat (nI (1000 + 100 * e + s)) a1 a2 a3 a4 a5 a6 p2 (nI (1000 + 100 * e + s))) = 0 then false else if jb (fm_X6_isFloat (nI (1000 + 100 * e + s)) a1 a2 a3 a4 a5 a6 p3 (nI (1000 + 100 * e + s))) = 0 then false else true) = fc_X5_compare (fm_X0_init_0 (nI e) (nI s)) (fm_X0_init_1 (nI e) (nI s)) (fm_X0_init_2 (nI e) (nI s)) (fm_X0_init_3 (nI e) (nI s)) (fm_X0_init_4 (nI e) (nI s)) (fm_X0_init_5 (nI e) (nI s)) p1 p2 p3 := by
    rw [isFloat_eq ok, isFloat_eq ok, show fm_X6_in p1 0 3 = fm_X5_isWithin p1 0 3 from rfl]
    rfl
  unfold fm_X6_compare
  rw [hc]
  cases hB : fc_X5_compare (fm_X0_init_0 (nI e) (nI s)) (fm_X0_init_1 (nI e) (nI s)) (fm_X0_init_2 (nI e) (nI s)) (fm_X0_init_3 (nI e) (nI s)) (fm_X0_init_4 (nI e) (nI s)) (fm_X0_init_5 (nI e) (nI s)) p1 p2 p3 with
  | false => exact ⟨rfl, rfl, fun h => by cases h⟩
  | true =>
    unfold fc_X5_compare at hB
    rw [and_ite, and_ite, and_ite] at hB
    obtain ⟨h1, h2⟩ := and_t hB
    obtain ⟨h2, h3⟩ := and_t h2
    obtain ⟨X, hX, rfl⟩ := holds_of ok h2
    obtain ⟨Y, hY, rfl⟩ := holds_of ok (and_t h3).1
    obtain ⟨k, -, hk, rfl⟩ := within_of (lo := 0) (hi := 3) (by decide) (by decide) h1
    have hwx := w_lt ok hX
    have hwy := w_lt ok hY
    have hcx := can_lt ok hX
    have hcy := can_lt ok hY
    have hwcx := w_lt ok hcx
    have hwcy := w_lt ok hcy
    have hb := b_ok ok
    unfold fm_X6_compare_s1
    rw [good_T]
    unfold fm_X6_compare_s2
    dsimp only
    rw [ite_jb, ite_t]
    unfold fm_X6_compare_s4
    unfold fm_X5_compare fm_X5_compare_61
    dsimp only
    rw [isNan_nI ok hX, isNan_nI ok hY, isBelow_nI ok hX hY, isBelow_nI ok hY hX]
    obtain ⟨i1, i2, i3⟩ := is_of (X := X) (Y := Y) ok
    by_cases hk3 : k = 3
    · subst hk3
      rw [if_pos (by decide)]
      unfold fm_X6_compare_s5
      dsimp only
      rw [nI_l (n := X) (Nat.lt_trans hwx (by decide)), canonical_lN ok hX]
      unfold fm_X6_compare_s11
      dsimp only
      rw [nI_l (n := Y) (Nat.lt_trans hwy (by decide)), canonical_lN ok hY]
      unfold fm_X6_compare_s12 fm_X6_compare_s13 fm_X6_compare_s14
      dsimp only
      have hcmp : (lg_cmp (lN (dx_can e s X)) (lN (dx_can e s Y)) = 0) ↔ dx_can e s X = dx_can e s Y := by
        rw [cmp_0, lN_eq (Nat.lt_trans hwcx (by decide)) (Nat.lt_trans hwcy (by decide))]
      have hxr : (lg_cmp (fg_any ((nI X ^^^ nI Y).toInt64)) 0 = 0) ↔ X = Y := by
        rw [fg_any_bit, cmp_0, fc_bit_0, decide_eq_false_iff_not, Classical.not_not, nI_xor0 hwx hwy]
      by_cases h : dx_can e s X = dx_can e s Y
      · rw [if_pos (hcmp.mpr h)]
        refine ⟨rfl, rfl, fun _ => ?_⟩
        cases hnx : dx_nan e s X with
        | true =>
          have hny : dx_nan e s Y = true := by rw [← can_nan ok, ← h, can_nan ok, hnx]
          rw [hny]
          rfl
        | false =>
          have hny : dx_nan e s Y = false := by rw [← can_nan ok, ← h, can_nan ok, hnx]
          rw [hny]
          rw [can_id hnx, can_id hny] at h
          show true = if lg_cmp (fg_any ((nI X ^^^ nI Y).toInt64)) 0 = 0 then true else false
          rw [if_pos (hxr.mpr h)]
      · rw [if_neg (fun q => h (hcmp.mp q))]
        refine ⟨rfl, rfl, fun _ => ?_⟩
        cases hnx : dx_nan e s X with
        | true =>
          cases hny : dx_nan e s Y with
          | true => exact absurd (by rw [can_n hnx, can_n hny]) h
          | false => rfl
        | false =>
          cases hny : dx_nan e s Y with
          | true => rfl
          | false =>
            rw [can_id hnx, can_id hny] at h
            show false = if lg_cmp (fg_any ((nI X ^^^ nI Y).toInt64)) 0 = 0 then true else false
            rw [if_neg (fun q => h (hxr.mp q))]
    · have hk3' : ¬ nI k = 3 := fun q => hk3 ((nI_eq (a := k) (b := 3) (by omega) (by decide)).mp q)
      rw [if_neg hk3']
      unfold fm_X6_compare_s6 fm_X6_compare_s7
      dsimp only
      rw [nI_l (n := X) (Nat.lt_trans hwx (by decide)), nI_l (n := Y) (Nat.lt_trans hwy (by decide)), compared_lN ok hX hY]
      unfold fm_X6_compare_s8 fm_X6_compare_s9 fm_X6_compare_s10
      dsimp only
      rcases (show k = 0 ∨ k = 1 ∨ k = 2 by omega) with rfl | rfl | rfl
      · rw [show (if nI 0 = 0 then (55 : Int32) else if nI 0 = 1 then 54 else 58) = 55 from rfl, i1]
        cases dx_nan e s X <;> cases dx_nan e s Y <;> cases decide (dx_rk e s X < dx_rk e s Y) <;> exact ⟨rfl, rfl, fun _ => rfl⟩
      · rw [show (if nI 1 = 0 then (55 : Int32) else if nI 1 = 1 then 54 else 58) = 54 from rfl, i2]
        cases dx_nan e s X <;> cases dx_nan e s Y <;> cases decide (dx_rk e s Y < dx_rk e s X) <;> exact ⟨rfl, rfl, fun _ => rfl⟩
      · rw [show (if nI 2 = 0 then (55 : Int32) else if nI 2 = 1 then 54 else 58) = 58 from rfl, i3]
        cases dx_nan e s X <;> cases dx_nan e s Y <;> cases decide (dx_rk e s X < dx_rk e s Y) <;> cases decide (dx_rk e s Y < dx_rk e s X) <;> exact ⟨rfl, rfl, fun _ => rfl⟩
