/-! PURE: ofWhole -/
theorem not_ones_u : ∀ w, w < 33 → fc_u (fg_ones (nI w) ^^^ (-1)) = 2 ^ 64 - 2 ^ w := by decide +kernel
theorem fc_u_neg {n : Nat} (h0 : 0 < n) (h : n < 2 ^ 64) : fc_u (-lN n) = 2 ^ 64 - n := by
  unfold fc_u
  rw [Int64.toBitVec_neg, BitVec.toNat_neg]
  have : (lN n).toBitVec.toNat = n := fc_u_lNs h
  rw [this]
  omega
/-- the lowest w wires of v, with or without the sign: minus, and how much -/
theorem ext_or {u w : Nat} (hw : w < 33) (hu : u < 2 ^ w) : lN u ||| (fg_ones (nI w) ^^^ (-1)) = -lN (2 ^ w - u) := by
  have h1 : 2 ^ w ≤ 2 ^ 32 := Nat.pow_le_pow_right (by decide) (by omega)
  apply fc_u_inj
  rw [fc_u_or, not_ones_u w hw, fc_u_lNs (by omega), fc_u_neg (by omega) (by omega)]
  have e1 : 2 ^ 64 - 2 ^ w = (2 ^ (64 - w) - 1) * 2 ^ w := by
    rw [Nat.sub_mul, ← Nat.pow_add, Nat.one_mul, show 64 - w + w = 64 by omega]
  rw [e1, Nat.or_comm, fc_or_add hu, ← e1]
  omega
theorem lN_toInt64 {n : Nat} (h : n < 2 ^ 64) : (lN n).toInt = if n < 2 ^ 63 then (n : Int) else (n : Int) - 2 ^ 64 := by
  rw [iL_N]
  show (Int64.ofInt n).toInt = _
  rw [Int64.toInt_ofInt, show Int64.size = 18446744073709551616 from rfl, Int.bmod_def]
  split <;> split <;> omega
theorem fc_shr_toInt (x : Int64) {n : Nat} (h : n < 64) : (fc_shr x (nI n)).toInt = x.toInt / 2 ^ n := by
  show (fc_shr x (nI n)).toBitVec.toInt = _
  rw [fc_shr_bv x h, BitVec.toInt_sshiftRight, Int.shiftRight_eq_div_pow]
  rfl
theorem msigned {u w : Nat} (hw1 : 1 ≤ w) (hw : w ≤ 32) (hu : u < 2 ^ w) : fm_X6_signed (lN u) (nI w) = iL (if 2 ^ (w - 1) ≤ u then (u : Int) - 2 ^ w else u) := by
  have h1 : 2 ^ w ≤ 2 ^ 32 := Nat.pow_le_pow_right (by decide) (by omega)
  have h2 : (2 : Nat) ^ w = 2 * 2 ^ (w - 1) := by
    rw [← Nat.pow_succ']
    congr 1
    omega
  have h3 : 2 ^ w * 2 ^ (64 - w) = 2 ^ 64 := by rw [← Nat.pow_add, show w + (64 - w) = 64 by omega]
  have h4 : 2 ^ (w - 1) * 2 ^ (64 - w) = 2 ^ 63 := by rw [← Nat.pow_add, show w - 1 + (64 - w) = 63 by omega]
  have h5 : u * 2 ^ (64 - w) < 2 ^ 64 := by rw [← h3]; exact Nat.mul_lt_mul_of_pos_right hu (Nat.pow_pos (by decide))
  have hz : ((2 : Int) ^ w) = ((2 ^ w : Nat) : Int) := by simp
  unfold fm_X6_signed
  rw [show (64 : Int32) = nI 64 from rfl, nI_sub (by omega), fc_lN_shl _ (by omega)]
  apply Int64.toInt_inj.mp
  rw [fc_shr_toInt _ (by omega), lN_toInt64 h5, hz]
  have hpz : ((2 : Int) ^ (64 - w)) = ((2 ^ (64 - w) : Nat) : Int) := by simp
  have hpp : 0 < 2 ^ (64 - w) := Nat.pow_pos (by decide)
  by_cases h : 2 ^ (w - 1) ≤ u
  · rw [if_pos h, if_neg (by rw [← h4]; exact Nat.not_lt.mpr (Nat.mul_le_mul_right _ h)), iL_toInt (by omega) (by omega), hpz]
    have e1 : ((u * 2 ^ (64 - w) : Nat) : Int) - 2 ^ 64 = ((u : Int) - (2 ^ w : Nat)) * (2 ^ (64 - w) : Nat) := by
      rw [Int.sub_mul, ← Int.natCast_mul, ← Int.natCast_mul, h3]
      rfl
    rw [e1]
    exact Int.mul_ediv_cancel _ (by omega)
  · rw [if_neg h, if_pos (by rw [← h4]; exact Nat.mul_lt_mul_of_pos_right (by omega) hpp), iL_toInt (by omega) (by omega), hpz, ← Int.natCast_ediv, Nat.mul_div_cancel _ hpp]
theorem ok_ofWhole : pf_ofWhole := by
  intro e s ok v hv p1 p2 p3 p4
  obtain ⟨a0, a1, a2, a3, a4, a5, a6⟩ := v
  dsimp only at hv ⊢
  subst hv
  have hc : (if jb (fm_X6_in p1 0 4) = 0 then false else if jb (fm_X6_in p3 1 32) = 0 then false else true) = fc_X5_ofWhole (fm_X0_init_0 (nI e) (nI s)) (fm_X0_init_1 (nI e) (nI s)) (fm_X0_init_2 (nI e) (nI s)) (fm_X0_init_3 (nI e) (nI s)) (fm_X0_init_4 (nI e) (nI s)) (fm_X0_init_5 (nI e) (nI s)) p1 p2 p3 p4 := rfl
  unfold fm_X6_ofWhole
  rw [hc]
  cases hB : fc_X5_ofWhole (fm_X0_init_0 (nI e) (nI s)) (fm_X0_init_1 (nI e) (nI s)) (fm_X0_init_2 (nI e) (nI s)) (fm_X0_init_3 (nI e) (nI s)) (fm_X0_init_4 (nI e) (nI s)) (fm_X0_init_5 (nI e) (nI s)) p1 p2 p3 p4 with
  | false => exact ⟨rfl, rfl, fun h => by cases h⟩
  | true =>
    unfold fc_X5_ofWhole at hB
    rw [and_ite, and_ite] at hB
    obtain ⟨h1, h2⟩ := and_t hB
    obtain ⟨md, hmd, rfl⟩ := mode_of h1
    obtain ⟨w, hw1, hw, rfl⟩ := within_of (lo := 1) (hi := 32) (by decide) (by decide) (and_t h2).1
    have hl := l_ok ok
    have h32 : 2 ^ w ≤ 2 ^ 32 := Nat.pow_le_pow_right (by decide) hw
    have hd : (2 : Nat) ^ w = 2 * 2 ^ (w - 1) := by
      rw [← Nat.pow_succ']
      congr 1
      omega
    obtain ⟨u, hu, eu⟩ : ∃ u : Nat, u < 2 ^ w ∧ p2.toInt64 &&& fg_ones (nI w) = lN u := by
      refine ⟨fc_u p2.toInt64 % 2 ^ w, Nat.mod_lt _ (Nat.pow_pos (by decide)), ?_⟩
      rw [← fc_lN_mask (fc_u_lt _) (by omega), fc_lN_u]
    have en : fm_X6_mask (nI w) = fg_ones (nI w) := by rw [mm_ok (by omega), fg_ones_eq (by omega)]
    unfold fm_X6_ofWhole_s1
    rw [good_T]
    unfold fm_X6_ofWhole_s2
    dsimp only
    rw [ite_jb, ite_t]
    unfold fm_X6_ofWhole_s4
    rw [en, eu]
    unfold fm_X6_ofWhole_s5
    unfold fm_X5_ofWhole
    dsimp only
    rw [eu, msigned hw1 hw hu]
    -- the sign, the magnitude
    obtain ⟨sg, M, hsM, e1, e2, e3⟩ : ∃ (sg : Bool) (M : Nat), M ≤ 2 ^ 32 ∧ (if jb p4 = 0 then 0 else fc_ushr (lN u) (nI w - 1)) = fc_bit sg ∧ fg_negif (fc_bit sg) (lN u ||| (fg_fan (fc_bit sg) &&& (fg_ones (nI w) ^^^ (-1)))) = lN M ∧ (if jb p4 = 0 then lN u else iL (if 2 ^ (w - 1) ≤ u then (u : Int) - 2 ^ w else u)) = iL (if sg = true then -(M : Int) else M) ∧ (sg = true → M ≠ 0) := by
      have hz : ((2 : Int) ^ w) = ((2 ^ w : Nat) : Int) := by simp
      by_cases h : p4 = true ∧ 2 ^ (w - 1) ≤ u
      · obtain ⟨rfl, hh⟩ := h
        refine ⟨true, 2 ^ w - u, by omega, ?_, ?_, ?_, fun _ => by omega⟩
        · rw [ite_jb, ite_t, show nI w - 1 = nI (w - 1) from nI_sub (b := 1) hw1, fc_lN_ushr (by omega) (by omega)]
          have : u / 2 ^ (w - 1) = 1 := by
            have hp := Nat.pow_pos (n := w - 1) (show 0 < 2 by decide)
            rw [Nat.div_eq_iff hp]
            omega
          rw [this]
          rfl
        · rw [show fg_fan (fc_bit true) = -1 from by decide +kernel, show (-1 : Int64) &&& (fg_ones (nI w) ^^^ -1) = fg_ones (nI w) ^^^ -1 from by rw [Int64.and_comm, Int64.and_neg_one], ext_or (by omega) hu, show fc_bit true = 1 from rfl, fg_negif1, Int64.neg_neg]
        · rw [ite_jb, ite_t, ite_t, if_pos hh, hz]
          congr 1
          omega
      · refine ⟨false, u, by omega, ?_, ?_, ?_, (fun q => by cases q)⟩
        · cases hp4 : p4 with
          | false => rfl
          | true =>
            have hh : ¬ 2 ^ (w - 1) ≤ u := fun q => h ⟨hp4, q⟩
            rw [ite_jb, ite_t, show nI w - 1 = nI (w - 1) from nI_sub (b := 1) hw1, fc_lN_ushr (by omega) (by omega), Nat.div_eq_of_lt (by omega)]
            rfl
        · rw [show fg_fan (fc_bit false) = 0 from by decide +kernel, Int64.zero_and, Int64.or_zero, show fc_bit false = 0 from rfl, fg_negif0]
        · rw [ite_jb, ite_f]
          cases hp4 : p4 with
          | false => rw [ite_f, iL_N]
          | true => rw [ite_t, if_neg (fun q => h ⟨hp4, q⟩)]
    obtain ⟨e3, e4⟩ := e3
    rw [e1, e2, e3]
    unfold fm_X6_ofWhole_s6
    rw [ite_c0]
    have hne : (iL (if sg = true then -(M : Int) else M) = 0) ↔ M = 0 := by
      rw [show (0 : Int64) = iL 0 from rfl, iL_eq (by split <;> omega) (by split <;> omega) (by omega) (by omega)]
      split <;> omega
    have hlt : (iL (if sg = true then -(M : Int) else M) < 0) ↔ sg = true ∧ M ≠ 0 := by
      rw [show (0 : Int64) = iL 0 from rfl, iL_lt (by split <;> omega) (by split <;> omega) (by omega) (by omega)]
      cases sg <;> simp <;> omega
    unfold fm_X4_finite fm_X4_init_0 fm_X4_init_1 fm_X4_init_2 fm_X4_init_3 fm_X4_init_4
    dsimp only
    rw [show (0 : Int64) = iL 0 from rfl] at *
    by_cases h0 : M = 0
    · rw [if_pos (hne.mpr h0)]
      have hsg : sg = false := by
        cases sg with
        | true => exact absurd h0 (e4 rfl)
        | false => rfl
      refine ⟨rfl, rfl, fun _ => ?_⟩
      rw [pack_fin ok hmd sg (Or.inl h0), hsg, h0]
      unfold rnd
      rw [if_pos rfl]
      show (0 : Int32) = nI (0 * _ + 0)
      rw [Nat.zero_mul]
      rfl
    · rw [if_neg (fun q => h0 (hne.mp q))]
      unfold fm_X6_ofWhole_s8 fm_X6_ofWhole_s9 fm_X6_ofWhole_s10
      dsimp only
      refine ⟨rfl, rfl, fun _ => ?_⟩
      rw [ite_cge, ite_cge, pack_fin ok hmd sg (Or.inr ⟨h0, by omega, by omega, by omega⟩)]
      have em : (if iL (if sg = true then -(M : Int) else M) < 0 then 0 - iL (if sg = true then -(M : Int) else M) else iL (if sg = true then -(M : Int) else M)) = lN M := by
        rw [show (0 : Int64) = iL 0 from rfl]
        cases sg with
        | true => rw [if_pos (hlt.mpr ⟨rfl, h0⟩), ite_t, iL_sub, iL_N]; congr 1; omega
        | false => rw [if_neg (fun q => by have := (hlt.mp q).1; cases this), ite_f, iL_N]
      have es : (if iL (if sg = true then -(M : Int) else M) < 0 then true else false) = sg := by
        rw [show (0 : Int64) = iL 0 from rfl]
        cases sg with
        | true => rw [if_pos (hlt.mpr ⟨rfl, h0⟩)]
        | false => rw [if_neg (fun q => by have := (hlt.mp q).1; cases this)]
      rw [em, es, show (0 : Int32) = iI 0 from rfl, mround_or ok hmd sg (Or.inr ⟨h0, by omega, by omega, by omega, by omega⟩), lN_32 (Nat.lt_trans (rnd_lt ok _ _ _ _) (by decide))]
