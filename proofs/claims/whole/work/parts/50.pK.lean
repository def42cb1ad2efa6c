/-! PURE: from, toWhole -/
theorem mround_0 {e s md : Nat} (ok : fw_ok e s) (neg : Bool) (p : Int32) (P : Int) : fm_X6_round (nI md) neg 0 p false (nI (1000 + 100 * e + s)) = lN (rnd e s md neg 0 P false) := by
  unfold fm_X6_round rnd
  dsimp only
  rw [me_ok ok, ms_ok ok, show nI s - 1 = nI (s - 1) from nI_sub (b := 1) (by have := ok.2.2.1; omega), sign_lN ok]
  rfl
theorem mround_or {e s md m : Nat} {p : Int} (ok : fw_ok e s) (hmd : md < 5) (neg : Bool) (h : m = 0 ∨ rk_in e s m p) : fm_X6_round (nI md) neg (lN m) (iI p) false (nI (1000 + 100 * e + s)) = lN (rnd e s md neg m p false) := by
  rcases h with h | h
  · subst h
    exact mround_0 ok neg _ _
  · exact mround_lN ok hmd neg false h
theorem fmt_nI (e s : Nat) : (1000 : Int32) + 100 * nI e + nI s = (nI (1000 + 100 * e + s)) := by
  rw [show (100 : Int32) * nI e = nI (100 * e) from (Int32.ofNat_mul 100 e).symm, show (1000 : Int32) = nI 1000 from rfl, nI_add, nI_add]
theorem inf_or {e s : Nat} (ok : fw_ok e s) (neg : Bool) : fc_shl (fm_X6_mask (nI e)) (nI (s - 1)) ||| lN (neg.toNat * 2 ^ (e + s - 1)) = lN (neg.toNat * 2 ^ (e + s - 1) + sp_inf e s) := by
  have hb := b_ok ok
  rw [(over_ok ok).2, Int64.or_comm, sign_or ok (by omega)]
theorem sg_lt {e s M : Nat} (ok : fw_ok e s) (neg : Bool) (h : M < 2 ^ (e + s - 1)) : neg.toNat * 2 ^ (e + s - 1) + M < 2 ^ 31 := by
  have hb := b_ok ok
  have hn := Bool.toNat_le neg
  have hm3 : neg.toNat * 2 ^ (e + s - 1) ≤ 1 * 2 ^ (e + s - 1) := Nat.mul_le_mul_right _ hn
  omega
theorem ok_from : pf_from := by
  intro e s ok v hv p1 p2 p3 p4
  obtain ⟨a0, a1, a2, a3, a4, a5, a6⟩ := v
  dsimp only at hv ⊢
  subst hv
  have hc : (if jb (fm_X6_isFormat p1 p2) = 0 then false else if jb (fm_X6_in p3 0 4) = 0 then false else if jb (fm_X6_isFloat (nI (1000 + 100 * e + s)) a1 a2 a3 a4 a5 a6 p4 (1000 + 100 * p1 + p2)) = 0 then false else true) = fc_X5_from (fm_X0_init_0 (nI e) (nI s)) (fm_X0_init_1 (nI e) (nI s)) (fm_X0_init_2 (nI e) (nI s)) (fm_X0_init_3 (nI e) (nI s)) (fm_X0_init_4 (nI e) (nI s)) (fm_X0_init_5 (nI e) (nI s)) p1 p2 p3 p4 := by
    unfold fc_X5_from
    rw [show fm_X6_isFormat p1 p2 = fm_X5_isFormat p1 p2 from rfl, show fm_X6_in p3 0 4 = fm_X5_isMode p3 from rfl, and_ite, and_ite, and_ite, and_ite, and_ite]
    cases hf : fm_X5_isFormat p1 p2 with
    | false => rfl
    | true =>
      obtain ⟨e', s', ok', rfl, rfl⟩ := format_of hf
      rw [fmt_nI, isFloat_eq ok']
      cases fm_X5_isMode p3 <;> simp
  unfold fm_X6_from
  rw [hc]
  cases hB : fc_X5_from (fm_X0_init_0 (nI e) (nI s)) (fm_X0_init_1 (nI e) (nI s)) (fm_X0_init_2 (nI e) (nI s)) (fm_X0_init_3 (nI e) (nI s)) (fm_X0_init_4 (nI e) (nI s)) (fm_X0_init_5 (nI e) (nI s)) p1 p2 p3 p4 with
  | false => exact ⟨rfl, rfl, fun h => by cases h⟩
  | true =>
    unfold fc_X5_from at hB
    rw [and_ite, and_ite] at hB
    obtain ⟨h1, h2⟩ := and_t hB
    obtain ⟨h1, h3⟩ := and_t h1
    obtain ⟨e', s', ok', rfl, rfl⟩ := format_of h1
    obtain ⟨md, hmd, rfl⟩ := mode_of (and_t h3).1
    obtain ⟨X, hX, rfl⟩ := holds_of ok' h2
    have hwx := w_lt ok' hX
    have hm := dx_m_lt (X := X) ok'
    have hp := dx_p_b (X := X) ok'
    have hl := l_ok ok
    have hb := b_ok ok
    have h4 := ok.2.2.1
    have h6 := ok.1
    unfold fm_X6_from_s1
    rw [good_T]
    unfold fm_X6_from_s2
    dsimp only
    rw [ite_jb, ite_t]
    unfold fm_X6_from_s4
    dsimp only
    rw [nI_l (n := X) (Nat.lt_trans hwx (by decide)), fmt_nI, take_lN ok' hX]
    unfold fm_X6_from_s5
    dsimp only
    rw [me_ok ok]
    unfold fm_X6_from_s6
    dsimp only
    rw [ms_ok ok]
    unfold fm_X6_from_s7
    dsimp only
    unfold fm_X5_from
    dsimp only
    rw [unpack_nI ok' hX]
    cases hn : dx_nan e' s' X with
    | true =>
      rw [val_nan hn]
      unfold fm_X6_from_s9
      refine ⟨rfl, rfl, fun _ => ?_⟩
      rw [pack_nan ok]
      show (fm_X6_nan (nI e) (nI s)).toInt32 = _
      rw [mn_ok ok, lN_32 (by omega)]
    | false =>
      unfold fm_X6_from_s8
      dsimp only
      cases hi : dx_inf e' s' X with
      | true =>
        rw [val_inf hn hi]
        unfold fm_X6_from_s11 fm_X6_from_s12
        refine ⟨rfl, rfl, fun _ => ?_⟩
        rw [pack_inf ok]
        show ((fc_shl (fm_X6_mask (nI e)) (nI s - 1)) ||| (if jb (dx_neg e' s' X) = 0 then 0 else fc_shl 1 (nI e + nI s - 1))).toInt32 = _
        have e1 : (if jb (dx_neg e' s' X) = 0 then 0 else fc_shl 1 (nI e + nI s - 1)) = lN ((dx_neg e' s' X).toNat * 2 ^ (e + s - 1)) := by
          rw [← sign_lN ok, nI_add, nI_add, show nI (e + s) - 1 = nI (e + s - 1) from nI_sub (b := 1) (by omega), show e + (s - 1) = e + s - 1 by omega]
        rw [e1, show nI s - 1 = nI (s - 1) from nI_sub (b := 1) (by omega), inf_or ok, lN_32 (sg_lt ok _ (by omega))]
      | false =>
        rw [val_fin hn hi]
        unfold fm_X6_from_s10
        refine ⟨rfl, rfl, fun _ => ?_⟩
        show (fm_X6_round (nI md) (dx_neg e' s' X) (lN (dx_m e' s' X)) (iI (dx_p e' s' X)) false (nI (1000 + 100 * e + s))).toInt32 = _
        by_cases h0 : dx_m e' s' X = 0
        · rw [mround_or ok hmd _ (Or.inl h0), pack_fin ok hmd _ (Or.inl h0), lN_32 (Nat.lt_trans (rnd_lt ok _ _ _ _) (by decide))]
        · rw [mround_or ok hmd _ (Or.inr ⟨h0, by omega, by omega, by omega, by omega⟩), pack_fin ok hmd _ (Or.inr ⟨h0, by omega, by omega, by omega⟩), lN_32 (Nat.lt_trans (rnd_lt ok _ _ _ _) (by decide))]
