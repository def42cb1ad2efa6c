/-! PURE: change, whole -/
theorem change_whole {e s X md : Nat} (ok : fw_ok e s) (hX : X < 2 ^ (e + s)) (hmd : md < 5) (a0 : Int32) (a1 : Int32) (a2 : Bool) (a3 : Int64) (a4 : Int32) (a5 : Bool) (a6 : Bool) : ∃ N : Nat, N < 65536 ∧ pkv e s md (whv md (dx_val e s X)) = nI N ∧ (fm_X6_whole a0 a1 a2 a3 a4 a5 a6 (nI md) (lN (dx_can e s X)) (nI (1000 + 100 * e + s))).1 = lN N ∧ (fm_X6_whole a0 a1 a2 a3 a4 a5 a6 (nI md) (lN (dx_can e s X)) (nI (1000 + 100 * e + s))).2.1 = a0 ∧ (fm_X6_whole a0 a1 a2 a3 a4 a5 a6 (nI md) (lN (dx_can e s X)) (nI (1000 + 100 * e + s))).2.2.1 = a1 := by
  have hb := b_ok ok
  have hl := l_ok ok
  have hw := w_lt ok hX
  have hm := dx_m_lt (X := X) ok
  have hp := dx_p_b (X := X) ok
  have hcl := can_lt ok hX
  unfold fm_X6_whole
  rw [take_lN ok hcl, can_nan ok]
  unfold fm_X6_whole_s1
  dsimp only
  rw [ite_jb]
  cases hn : dx_nan e s X with
  | true =>
    rw [ite_t, val_nan hn]
    refine ⟨sp_inf e s + 2 ^ (s - 2), by omega, ?_, ?_, rfl, rfl⟩
    · exact pack_nan ok _ _ _ _
    · show fm_X6_nan (fm_X6_exponent (nI (1000 + 100 * e + s))) (fm_X6_significand (nI (1000 + 100 * e + s))) = _
      rw [me_ok ok, ms_ok ok, mn_ok ok]
  | false =>
    rw [ite_f, can_id hn]
    unfold fm_X6_whole_s2
    dsimp only
    rw [ite_jb]
    cases hi : dx_inf e s X with
    | true =>
      rw [ite_t, val_inf hn hi]
      refine ⟨X, hw, ?_, rfl, rfl, rfl⟩
      refine Eq.trans (pack_inf ok (dx_neg e s X) 0 0) ?_
      rw [inf_id ok hX hi]
    | false =>
      rw [ite_f, val_fin hn hi]
      have hV := whole_b (X := X) (md := md) ok (dx_neg e s X)
      have ew : whv md (false, false, fc_bit (dx_neg e s X), iL (dx_p e s X), lN (dx_m e s X)) = (false, false, fc_bit (dx_neg e s X), iL 0, lN (sp_at md (dx_neg e s X) (dx_m e s X) (dx_p e s X) 0 false)) := by
        rw [← whole_cls ok hmd]
        rfl
      rw [ew]
      have hcls : pkv e s md (false, false, fc_bit (dx_neg e s X), iL 0, lN (sp_at md (dx_neg e s X) (dx_m e s X) (dx_p e s X) 0 false)) = nI (rnd e s md (dx_neg e s X) (sp_at md (dx_neg e s X) (dx_m e s X) (dx_p e s X) 0 false) 0 false) := by
        refine pack_fin ok hmd _ ?_
        by_cases h0 : sp_at md (dx_neg e s X) (dx_m e s X) (dx_p e s X) 0 false = 0
        · exact Or.inl h0
        · exact Or.inr ⟨h0, by omega, by omega, by omega⟩
      rw [hcls]
      unfold fm_X6_whole_s4
      dsimp only
      rw [ite_n0 (by omega)]
      by_cases h0 : dx_m e s X = 0
      · rw [if_pos h0]
        refine ⟨X, hw, ?_, rfl, rfl, rfl⟩
        rw [h0, at_0, zero_id ok hX h0]
      · rw [if_neg h0]
        unfold fm_X6_whole_s7
        dsimp only
        have hc : (iI (dx_p e s X) < 0) ↔ dx_p e s X < 0 := by
          rw [show (0 : Int32) = iI 0 from rfl, iI_lt (by omega) (by omega) (by omega) (by omega)]
        by_cases hpn : dx_p e s X < 0
        · rw [if_pos (hc.mpr hpn)]
          have hr := whole_ref (X := X) (md := md) ok hmd (dx_neg e s X)
          rw [if_pos (hc.mpr hpn)] at hr
          unfold fm_X6_whole_s8
          dsimp only
          rw [hr]
          unfold fm_X6_whole_s10
          dsimp only
          refine ⟨_, rnd_lt ok _ _ _ _, rfl, ?_, rfl, rfl⟩
          refine mround_or ok hmd _ (p := 0) ?_
          by_cases h00 : sp_at md (dx_neg e s X) (dx_m e s X) (dx_p e s X) 0 false = 0
          · exact Or.inl h00
          · exact Or.inr ⟨h00, by omega, by omega, by omega, by omega⟩
        · rw [if_neg (fun q => hpn (hc.mp q))]
          refine ⟨X, hw, ?_, rfl, rfl, rfl⟩
          rw [exact_id ok hX hn hi h0 (by omega)]
theorem sbit_ok {e s : Nat} (ok : fw_ok e s) : fc_shl 1 (fm_X6_width (nI (1000 + 100 * e + s)) - 1) = lN (2 ^ (e + s - 1)) ∧ (fm_X0_init_2 (nI e) (nI s)).toInt64 = lN (2 ^ (e + s - 1)) := ok_cases (P := fun e s => fc_shl 1 (fm_X6_width (nI (1000 + 100 * e + s)) - 1) = lN (2 ^ (e + s - 1)) ∧ (fm_X0_init_2 (nI e) (nI s)).toInt64 = lN (2 ^ (e + s - 1))) (by decide +kernel) ok
theorem ok_change : pf_change := by
  intro e s ok v hv p1 p2 p3
  obtain ⟨a0, a1, a2, a3, a4, a5, a6⟩ := v
  dsimp only at hv ⊢
  subst hv
  have hc : (if jb (fm_X6_in p1 0 3) = 0 then false else if jb (fm_X6_in p2 0 4) = 0 then false else if jb (fm_X6_isFloat (nI (1000 + 100 * e + s)) a1 a2 a3 a4 a5 a6 p3 (nI (1000 + 100 * e + s))) = 0 then false else true) = fc_X5_change (fm_X0_init_0 (nI e) (nI s)) (fm_X0_init_1 (nI e) (nI s)) (fm_X0_init_2 (nI e) (nI s)) (fm_X0_init_3 (nI e) (nI s)) (fm_X0_init_4 (nI e) (nI s)) (fm_X0_init_5 (nI e) (nI s)) p1 p2 p3 := by
    rw [isFloat_eq ok, show fm_X6_in p1 0 3 = fm_X5_isWithin p1 0 3 from rfl, show fm_X6_in p2 0 4 = fm_X5_isMode p2 from rfl]
    rfl
  unfold fm_X6_change
  rw [hc]
  cases hB : fc_X5_change (fm_X0_init_0 (nI e) (nI s)) (fm_X0_init_1 (nI e) (nI s)) (fm_X0_init_2 (nI e) (nI s)) (fm_X0_init_3 (nI e) (nI s)) (fm_X0_init_4 (nI e) (nI s)) (fm_X0_init_5 (nI e) (nI s)) p1 p2 p3 with
  | false => exact ⟨rfl, rfl, fun h => by cases h⟩
  | true =>
    unfold fc_X5_change at hB
    rw [and_ite, and_ite, and_ite] at hB
    obtain ⟨h1, h2⟩ := and_t hB
    obtain ⟨h2, h3⟩ := and_t h2
    obtain ⟨md, hmd, rfl⟩ := mode_of h2
    obtain ⟨X, hX, rfl⟩ := holds_of ok (and_t h3).1
    obtain ⟨k, -, hk, rfl⟩ := within_of (lo := 0) (hi := 3) (by decide) (by decide) h1
    have hwx := w_lt ok hX
    have hb := b_ok ok
    have hcl := can_lt ok hX
    unfold fm_X6_change_s1
    rw [good_T]
    unfold fm_X6_change_s2
    dsimp only
    rw [ite_jb, ite_t]
    unfold fm_X6_change_s4
    have hcls : fm_X5_change (fm_X0_init_0 (nI e) (nI s)) (fm_X0_init_1 (nI e) (nI s)) (fm_X0_init_2 (nI e) (nI s)) (fm_X0_init_3 (nI e) (nI s)) (fm_X0_init_4 (nI e) (nI s)) (fm_X0_init_5 (nI e) (nI s)) (nI k) (nI md) (nI X) = if nI k = 0 then pkv e s md (rtv (dx_val e s X)) else if nI k = 1 then pkv e s md (whv md (dx_val e s X)) else if nI k = 2 then (if jb (dx_val e s X).1 = 0 then nI X &&& (fm_X0_init_2 (nI e) (nI s) ^^^ (-1)) else fm_X0_init_4 (nI e) (nI s)) else (if jb (dx_val e s X).1 = 0 then nI X ^^^ fm_X0_init_2 (nI e) (nI s) else fm_X0_init_4 (nI e) (nI s)) := by
      rw [← unpack_nI ok hX]
      rfl
    rw [hcls]
    rcases (show k = 0 ∨ k = 1 ∨ (k = 2 ∨ k = 3) by omega) with rfl | rfl | hk23
    · rw [if_pos (by decide), if_pos (by decide)]
      unfold fm_X6_change_s5
      dsimp only
      rw [nI_l (n := X) (Nat.lt_trans hwx (by decide)), canonical_lN ok hX]
      unfold fm_X6_change_s17
      dsimp only
      obtain ⟨N, hN, g1, g2, g3, g4⟩ := change_root (md := md) ok hX hmd (nI (1000 + 100 * e + s)) 0 (dx_neg e s X) (lN (dx_m e s X)) (iI (dx_p e s X)) (dx_inf e s X) (dx_nan e s X)
      unfold fm_X6_change_s18
      refine ⟨g4, g3, fun _ => ?_⟩
      show Int64.toInt32 _ = _
      rw [g2, g1, lN_32 (Nat.lt_trans hN (by decide))]
    · rw [if_neg (by decide), if_neg (by decide), if_pos (by decide)]
      unfold fm_X6_change_s6
      rw [if_pos (by decide)]
      unfold fm_X6_change_s7
      dsimp only
      rw [nI_l (n := X) (Nat.lt_trans hwx (by decide)), canonical_lN ok hX]
      unfold fm_X6_change_s15
      dsimp only
      obtain ⟨N, hN, g1, g2, g3, g4⟩ := change_whole (md := md) ok hX hmd (nI (1000 + 100 * e + s)) 0 (dx_neg e s X) (lN (dx_m e s X)) (iI (dx_p e s X)) (dx_inf e s X) (dx_nan e s X)
      unfold fm_X6_change_s16
      refine ⟨g4, g3, fun _ => ?_⟩
      show Int64.toInt32 _ = _
      rw [g2, g1, lN_32 (Nat.lt_trans hN (by decide))]
    · have hk0 : ¬ nI k = 0 := by rcases hk23 with rfl | rfl <;> decide
      have hk1 : ¬ nI k = 1 := by rcases hk23 with rfl | rfl <;> decide
      rw [if_neg hk0, if_neg hk0, if_neg hk1]
      unfold fm_X6_change_s6
      rw [if_neg hk1]
      unfold fm_X6_change_s8
      dsimp only
      rw [nI_l (n := X) (Nat.lt_trans hwx (by decide)), take_lN ok hX]
      unfold fm_X6_change_s9
      dsimp only
      rw [(sbit_ok ok).1]
      unfold fm_X6_change_s10
      dsimp only
      cases hn : dx_nan e s X with
      | true =>
        rw [val_nan hn]
        unfold fm_X6_change_s12
        dsimp only
        rw [nI_l (n := X) (Nat.lt_trans hwx (by decide)), canonical_lN ok hX]
        unfold fm_X6_change_s14
        dsimp only
        refine ⟨rfl, rfl, fun _ => ?_⟩
        show (lN (dx_can e s X)).toInt32 = _
        rw [can_n hn, lN_32 (by omega), ← c4_ok ok]
        rcases hk23 with rfl | rfl <;> rfl
      | false =>
        have hv1 : (dx_val e s X).1 = false := by
          unfold dx_val
          rw [hn, ite_f]
          split <;> rfl
        rw [hv1]
        unfold fm_X6_change_s11 fm_X6_change_s13
        dsimp only
        have h2I : (lN (2 ^ (e + s - 1))).toInt32 = fm_X0_init_2 (nI e) (nI s) := by
          rw [← (sbit_ok ok).2]
          exact Int32.toInt32_toInt64 _
        have hXI : ((nI X).toInt64).toInt32 = nI X := Int32.toInt32_toInt64 _
        refine ⟨rfl, rfl, fun _ => ?_⟩
        rcases hk23 with rfl | rfl
        · show ((nI X).toInt64 &&& (lN (2 ^ (e + s - 1)) ^^^ (-1))).toInt32 = nI X &&& (fm_X0_init_2 (nI e) (nI s) ^^^ (-1))
          rw [Int64.toInt32_and, Int64.toInt32_xor, h2I, hXI]
          rfl
        · show ((nI X).toInt64 ^^^ lN (2 ^ (e + s - 1))).toInt32 = nI X ^^^ fm_X0_init_2 (nI e) (nI s)
          rw [Int64.toInt32_xor, h2I, hXI]
