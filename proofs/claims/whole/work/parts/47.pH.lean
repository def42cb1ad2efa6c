/-! PURE: least, compare, is -/
theorem good_T (a0 : Int32) (a1 : Int32) (a2 : Bool) (a3 : Int64) (a4 : Int32) (a5 : Bool) (a6 : Bool) : fm_X6_good a0 a1 a2 a3 a4 a5 a6 true = (true, a0, 0, a2, a3, a4, a5, a6) := rfl
theorem ok_least : pf_least := by
  intro e s ok v hv p1 p2 p3
  obtain ⟨a0, a1, a2, a3, a4, a5, a6⟩ := v
  dsimp only at hv ⊢
  subst hv
  have hc : (if jb (fm_X6_isFloat (nI (1000 + 100 * e + s)) a1 a2 a3 a4 a5 a6 p1 (nI (1000 + 100 * e + s))) = 0 then false else if jb (fm_X6_isFloat (nI (1000 + 100 * e + s)) a1 a2 a3 a4 a5 a6 p2 (nI (1000 + 100 * e + s))) = 0 then false else true) = fc_X5_least (fm_X0_init_0 (nI e) (nI s)) (fm_X0_init_1 (nI e) (nI s)) (fm_X0_init_2 (nI e) (nI s)) (fm_X0_init_3 (nI e) (nI s)) (fm_X0_init_4 (nI e) (nI s)) (fm_X0_init_5 (nI e) (nI s)) p1 p2 p3 := by
    rw [isFloat_eq ok, isFloat_eq ok]
    rfl
  unfold fm_X6_least
  rw [hc]
  cases hB : fc_X5_least (fm_X0_init_0 (nI e) (nI s)) (fm_X0_init_1 (nI e) (nI s)) (fm_X0_init_2 (nI e) (nI s)) (fm_X0_init_3 (nI e) (nI s)) (fm_X0_init_4 (nI e) (nI s)) (fm_X0_init_5 (nI e) (nI s)) p1 p2 p3 with
  | false => exact ⟨rfl, rfl, fun h => by cases h⟩
  | true =>
    unfold fc_X5_least at hB
    rw [and_ite, and_ite] at hB
    obtain ⟨h1, h2⟩ := and_t hB
    obtain ⟨X, hX, rfl⟩ := holds_of ok h1
    obtain ⟨Y, hY, rfl⟩ := holds_of ok (and_t h2).1
    have hwx := w_lt ok hX
    have hwy := w_lt ok hY
    have hcx := can_lt ok hX
    have hcy := can_lt ok hY
    have hb := b_ok ok
    simp only [fm_X6_least, fm_X6_least_s1, fm_X6_least_s2, fm_X6_least_s4, fm_X6_least_s5, fm_X6_least_s6, fm_X6_least_s7, fm_X6_least_s8, fm_X6_least_s3]
    rw [good_T]
    dsimp only
    rw [ite_jb, ite_t, nI_l (by omega), nI_l (by omega), canonical_lN ok hX]
    dsimp only
    rw [canonical_lN ok hY]
    dsimp only
    simp only [fm_X6_extreme, fm_X6_extreme_s1, fm_X6_extreme_s2, fm_X6_extreme_s4, fm_X6_extreme_s5, fm_X6_extreme_s7, fm_X6_extreme_s9, fm_X6_extreme_s10, fm_X6_extreme_s12, fm_X6_extreme_s11, fm_X6_extreme_s8, fm_X6_extreme_s6, fm_X6_extreme_s3, fm_X6_extreme_s13]
    rw [take_lN ok hcx]
    dsimp only
    rw [take_lN ok hcy, canonical_lN ok hcy]
    dsimp only
    rw [order_lN ok hcx hcy, can_nan ok, can_nan ok]
    dsimp only
    unfold fm_X5_least
    dsimp only
    rw [isNan_nI ok hX, isNan_nI ok hY, isBelow_nI ok hX hY, isBelow_nI ok hY hX]
    cases hnx : dx_nan e s X with
    | true =>
      refine ⟨rfl, rfl, fun _ => ?_⟩
      show (lN (dx_can e s (dx_can e s Y))).toInt32 = _
      cases hny : dx_nan e s Y with
      | true =>
        rw [can_n (by rw [can_nan ok, hny]), lN_32 (by omega)]
        exact (c4_ok ok).symm
      | false =>
        rw [can_id (by rw [can_nan ok, hny]), can_id hny, lN_32 (by omega)]
        rfl
    | false =>
      rw [can_id hnx]
      cases hny : dx_nan e s Y with
      | true =>
        refine ⟨rfl, rfl, fun _ => ?_⟩
        exact lN_32 (by omega)
      | false =>
        rw [can_id hny]
        unfold ordv
        rw [hnx, hny]
        simp only [ite_jb, ite_f]
        by_cases g1 : dx_rk e s X < dx_rk e s Y
        · rw [if_pos g1]
          have g2 : ¬ dx_rk e s Y < dx_rk e s X := by omega
          cases p3 <;> simp [g1, g2, jb] <;> exact lN_32 (by omega)
        · rw [if_neg g1]
          by_cases g2 : dx_rk e s Y < dx_rk e s X
          · rw [if_pos g2]
            cases p3 <;> simp [g1, g2, jb] <;> exact lN_32 (by omega)
          · rw [if_neg g2]
            cases p3 <;> simp [g1, g2, jb] <;> exact lN_32 (by omega)
