/-! PURE: toWhole -/
/-- the reference's way to a whole number -/
theorem whole_ref {e s X md : Nat} (ok : fw_ok e s) (hmd : md < 5) (neg : Bool) : (if iI (dx_p e s X) < 0 then fm_X6_cut (lN (dx_m e s X)) (-iI (dx_p e s X)) false (nI md) neg else fc_shl (lN (dx_m e s X)) (iI (dx_p e s X))) = lN (sp_at md neg (dx_m e s X) (dx_p e s X) 0 false) := by
  have hm := dx_m_lt (X := X) ok
  have hp := dx_p_b (X := X) ok
  have hc : (iI (dx_p e s X) < 0) ↔ dx_p e s X < 0 := by
    rw [show (0 : Int32) = iI 0 from rfl, iI_lt (by omega) (by omega) (by omega) (by omega)]
  by_cases h : dx_p e s X < 0
  · rw [if_pos (hc.mpr h), iI_neg, show -dx_p e s X = 0 - dx_p e s X by omega, cut_at hmd (by omega) (by omega) (by omega)]
    rw [show (dx_p e s X - 0).toNat = 0 by omega, Nat.pow_zero]
    omega
  · rw [if_neg (fun q => h (hc.mp q)), show iI (dx_p e s X) = nI (dx_p e s X).toNat by rw [iI_N]; congr 1; omega, fc_lN_shl _ (by omega)]
    unfold sp_at
    by_cases h0 : dx_p e s X ≤ 0
    · rw [if_pos h0]
      unfold sp_cut
      rw [if_pos (by omega), show (dx_p e s X).toNat = 0 by omega, Nat.pow_zero, Nat.mul_one]
    · rw [if_neg h0, show dx_p e s X - 0 = dx_p e s X by omega]
theorem whole_b {e s X md : Nat} (ok : fw_ok e s) (neg : Bool) : sp_at md neg (dx_m e s X) (dx_p e s X) 0 false < 2 ^ 42 := by
  have hm := dx_m_lt (X := X) ok
  have hp := dx_p_b (X := X) ok
  unfold sp_at
  split
  · have h1 := sp_cut_le md neg (dx_m e s X) (0 - dx_p e s X).toNat false
    have h2 : dx_m e s X / 2 ^ (0 - dx_p e s X).toNat ≤ dx_m e s X := Nat.div_le_self _ _
    omega
  · have h1 : 2 ^ (dx_p e s X - 0).toNat ≤ 2 ^ 30 := Nat.pow_le_pow_right (by decide) (by omega)
    have h2 : dx_m e s X * 2 ^ (dx_p e s X - 0).toNat ≤ 2047 * 2 ^ 30 := Nat.mul_le_mul (by omega) h1
    omega
theorem whole_cls {e s X md : Nat} (ok : fw_ok e s) (hmd : md < 5) (neg : Bool) : fm_X3_round (nI md) false false (fc_bit neg) (iL (dx_p e s X)) (lN (dx_m e s X)) 0 = lN (sp_at md neg (dx_m e s X) (dx_p e s X) 0 false) := by
  have hm := dx_m_lt (X := X) ok
  have hp := dx_p_b (X := X) ok
  have h1 : 2 ^ (dx_p e s X - 0).toNat ≤ 2 ^ 30 := Nat.pow_le_pow_right (by decide) (by omega)
  have h2 : dx_m e s X * 2 ^ (dx_p e s X - 0).toNat ≤ 2047 * 2 ^ 30 := Nat.mul_le_mul (by omega) h1
  exact round_lN hmd (by omega) neg false false (u := 0) (by omega) (by omega) (by omega) (by omega) (by omega) (by omega) (by omega)
theorem ite_cn_le {α : Type} {x y : Nat} (hx : x < 2 ^ 62) (hy : y < 2 ^ 62) (a b : α) : (if lg_cmp (lN x) (lN y) ≤ 0 then a else b) = if x ≤ y then a else b := by
  rw [ite_cle]
  have hc : (lN y < lN x) ↔ y < x := by
    rw [iL_N, iL_N, iL_lt (by omega) (by omega) (by omega) (by omega)]
    omega
  by_cases h : x ≤ y
  · rw [if_pos h, if_neg (fun q => by have := hc.mp q; omega)]
  · rw [if_neg h, if_pos (hc.mpr (by omega))]
/-- is the whole number within the bits? the class -/
theorem within_cls {v w : Nat} (hv : v < 2 ^ 42) (hw1 : 1 ≤ w) (hw : w ≤ 32) (neg sg : Bool) : fm_X5_isWithinBits false false (fc_bit neg) 0 (lN v) (nI w) sg = (if neg = true then (if sg = true then decide (v ≤ 2 ^ (w - 1)) else decide (v = 0)) else (if sg = true then decide (v ≤ 2 ^ (w - 1) - 1) else decide (v ≤ 2 ^ w - 1))) := by
  have h1 : 2 ^ w ≤ 2 ^ 32 := Nat.pow_le_pow_right (by decide) hw
  have h2 : 2 ^ (w - 1) ≤ 2 ^ 32 := Nat.pow_le_pow_right (by decide) (by omega)
  have key : ∀ l : Nat, l ≤ 2 ^ 32 → (if lg_cmp (fg_below (lN l) (lN v)) 0 = 0 then true else false) = decide (v ≤ l) := by
    intro l hl
    rw [fg_below_bit, ite_c0, ite_b0, ite_dt]
    by_cases h : v ≤ l
    · rw [if_neg (fun q => by have := (fc_lN_sub_neg (by omega) (by omega)).mp q; omega), decide_eq_true h]
    · rw [if_pos ((fc_lN_sub_neg (by omega) (by omega)).mpr (by omega)), decide_eq_false h]
  unfold fm_X5_isWithinBits
  dsimp only
  rw [show nI w - 1 = nI (w - 1) from nI_sub (b := 1) hw1]
  cases neg with
  | true =>
    cases sg with
    | true =>
      show (if lg_cmp (fg_below (fc_shl 1 (nI (w - 1))) (lN v)) 0 = 0 then true else false) = decide (v ≤ 2 ^ (w - 1))
      rw [show fc_shl 1 (nI (w - 1)) = lN (2 ^ (w - 1)) by rw [show (1 : Int64) = lN 1 from rfl, fc_lN_shl 1 (by omega), Nat.one_mul], key _ h2]
    | false =>
      show (if lg_cmp (fg_below 0 (lN v)) 0 = 0 then true else false) = decide (v = 0)
      rw [show (0 : Int64) = lN 0 from rfl]
      refine (key 0 (by decide)).trans ?_
      rw [decide_eq_decide]
      omega
  | false =>
    cases sg with
    | true =>
      show (if lg_cmp (fg_below (fg_ones (nI (w - 1))) (lN v)) 0 = 0 then true else false) = decide (v ≤ 2 ^ (w - 1) - 1)
      rw [fg_ones_eq (by omega), key _ (by omega)]
    | false =>
      show (if lg_cmp (fg_below (fg_ones (nI w)) (lN v)) 0 = 0 then true else false) = decide (v ≤ 2 ^ w - 1)
      rw [fg_ones_eq (by omega), key _ (by omega)]
def inb (v w : Nat) (neg sg : Bool) : Bool := if neg = true then (if sg = true then decide (v ≤ 2 ^ (w - 1)) else decide (v = 0)) else (if sg = true then decide (v ≤ 2 ^ (w - 1) - 1) else decide (v ≤ 2 ^ w - 1))
theorem tw_tail {v w : Nat} (hv : v < 2 ^ 42) (hw1 : 1 ≤ w) (hw : w ≤ 32) (neg sg : Bool) (a0 : Int32) (a1 : Int32) (a2 : Bool) (a3 : Int64) (a4 : Int32) (a5 : Bool) (a6 : Bool) (q1 q2 : Int32) (x1 : Bool) (z6 : Bool × fw_S7) (z0 z1 : Int32) (zm : Int64) (zp : Int32) (zi zn : Bool) : fm_X6_toWhole_s10 a0 a1 a2 a3 a4 a5 a6 q1 q2 (nI w) sg x1 z6 (z0, z1, neg, zm, zp, zi, zn) (lN v) = (if inb v w neg sg = true then ((if neg = true then -lN v else lN v) &&& fg_ones (nI w)).toInt32 else 0, z0, z1, neg, zm, zp, zi, zn) := by
  have h32 : 2 ^ w ≤ 2 ^ 32 := Nat.pow_le_pow_right (by decide) hw
  have h31 : 2 ^ (w - 1) ≤ 2 ^ 32 := Nat.pow_le_pow_right (by decide) (by omega)
  have hpos : 1 ≤ 2 ^ (w - 1) := Nat.pow_pos (by decide)
  have en : fm_X6_mask (nI w) = fg_ones (nI w) := by rw [mm_ok (by omega), fg_ones_eq (by omega)]
  have e1 : fm_X6_mask (nI w - 1) = lN (2 ^ (w - 1) - 1) := by rw [show nI w - 1 = nI (w - 1) from nI_sub (b := 1) hw1, mm_ok (by omega)]
  have e0 : fg_ones (nI w) = lN (2 ^ w - 1) := fg_ones_eq (by omega)
  have ez : (0 : Int64) - lN v = -lN v := Int64.zero_sub _
  have e2 : lN (2 ^ (w - 1) - 1) + 1 = lN (2 ^ (w - 1)) := by rw [lN_1]; congr 1; omega
  unfold fm_X6_toWhole_s10 fm_X6_toWhole_s11
  dsimp only
  rw [e1, ite_jb, ite_jb]
  unfold inb
  cases neg with
  | false =>
    rw [ite_f, ite_f, ite_f]
    unfold fm_X6_toWhole_s12 fm_X6_toWhole_s14 fm_X6_toWhole_175 fm_X6_toWhole_s22 fm_X6_toWhole_s15
    dsimp only
    rw [ite_jb, ite_f, en]
    cases sg with
    | true =>
      rw [ite_t, ite_t, ite_cn_le (by omega) (by omega), ite_dt]
      by_cases h : v ≤ 2 ^ (w - 1) - 1
      · rw [if_pos h, if_pos h]
      · rw [if_neg h, if_neg h]
    | false =>
      rw [ite_f, ite_f, e0, ite_cn_le (by omega) (by omega), ite_dt]
      by_cases h : v ≤ 2 ^ w - 1
      · rw [if_pos h, if_pos h]
      · rw [if_neg h, if_neg h]
  | true =>
    rw [ite_t, ite_t, ite_t]
    unfold fm_X6_toWhole_s13
    rw [ite_jb]
    cases sg with
    | true =>
      rw [ite_t, ite_t, ite_t]
      unfold fm_X6_toWhole_s17 fm_X6_toWhole_s20 fm_X6_toWhole_175 fm_X6_toWhole_s22 fm_X6_toWhole_s21
      dsimp only
      rw [ite_jb, ite_t, en, ez, e2, ite_cn_le (by omega) (by omega), ite_dt]
      by_cases h : v ≤ 2 ^ (w - 1)
      · rw [if_pos h, if_pos h]
      · rw [if_neg h, if_neg h]
    | false =>
      rw [ite_f, ite_f, ite_f]
      unfold fm_X6_toWhole_s16 fm_X6_toWhole_s18 fm_X6_toWhole_175 fm_X6_toWhole_s22 fm_X6_toWhole_s19
      dsimp only
      rw [ite_jb, ite_t, en, ez, ite_n0 (by omega), ite_dt]
      by_cases h : v = 0
      · rw [if_pos h, if_pos h]
      · rw [if_neg h, if_neg h]
theorem ok_toWhole : pf_toWhole := by
  intro e s ok v hv p1 p2 p3 p4
  obtain ⟨a0, a1, a2, a3, a4, a5, a6⟩ := v
  dsimp only at hv ⊢
  subst hv
  have hc : (if jb (fm_X6_in p1 0 4) = 0 then false else if jb (fm_X6_isFloat (nI (1000 + 100 * e + s)) a1 a2 a3 a4 a5 a6 p2 (nI (1000 + 100 * e + s))) = 0 then false else if jb (fm_X6_in p3 1 32) = 0 then false else true) = fc_X5_toWhole (fm_X0_init_0 (nI e) (nI s)) (fm_X0_init_1 (nI e) (nI s)) (fm_X0_init_2 (nI e) (nI s)) (fm_X0_init_3 (nI e) (nI s)) (fm_X0_init_4 (nI e) (nI s)) (fm_X0_init_5 (nI e) (nI s)) p1 p2 p3 p4 := by
    rw [isFloat_eq ok, show fm_X6_in p1 0 4 = fm_X5_isMode p1 from rfl, show fm_X6_in p3 1 32 = fm_X5_isWithin p3 1 32 from rfl]
    rfl
  unfold fm_X6_toWhole
  rw [hc]
  cases hB : fc_X5_toWhole (fm_X0_init_0 (nI e) (nI s)) (fm_X0_init_1 (nI e) (nI s)) (fm_X0_init_2 (nI e) (nI s)) (fm_X0_init_3 (nI e) (nI s)) (fm_X0_init_4 (nI e) (nI s)) (fm_X0_init_5 (nI e) (nI s)) p1 p2 p3 p4 with
  | false => exact ⟨rfl, rfl, fun h => by cases h⟩
  | true =>
    unfold fc_X5_toWhole at hB
    rw [and_ite, and_ite, and_ite] at hB
    obtain ⟨h1, h2⟩ := and_t hB
    obtain ⟨h2, h3⟩ := and_t h2
    obtain ⟨md, hmd, rfl⟩ := mode_of h1
    obtain ⟨X, hX, rfl⟩ := holds_of ok h2
    obtain ⟨w, hw1, hw, rfl⟩ := within_of (lo := 1) (hi := 32) (by decide) (by decide) (and_t h3).1
    have hwx := w_lt ok hX
    unfold fm_X6_toWhole_s1
    rw [good_T]
    unfold fm_X6_toWhole_s2
    dsimp only
    rw [ite_jb, ite_t]
    unfold fm_X6_toWhole_s4
    dsimp only
    rw [nI_l (n := X) (Nat.lt_trans hwx (by decide)), take_lN ok hX]
    unfold fm_X6_toWhole_s5
    dsimp only
    unfold fm_X5_toWhole
    dsimp only
    rw [unpack_nI ok hX]
    cases hn : dx_nan e s X with
    | true =>
      rw [val_nan hn]
      exact ⟨rfl, rfl, fun _ => rfl⟩
    | false =>
      unfold fm_X6_toWhole_s6
      dsimp only
      cases hi : dx_inf e s X with
      | true =>
        rw [val_inf hn hi]
        exact ⟨rfl, rfl, fun _ => rfl⟩
      | false =>
        rw [val_fin hn hi]
        rw [show jb false = 0 from rfl, if_pos rfl, if_pos rfl]
        unfold fm_X6_toWhole_s8
        dsimp only
        rw [whole_ref ok hmd]
        have hvb := whole_b (X := X) (md := md) ok (dx_neg e s X)
        have ew : fm_X2_whole (nI md) false false (fc_bit (dx_neg e s X)) (iL (dx_p e s X)) (lN (dx_m e s X)) = (false, false, fc_bit (dx_neg e s X), 0, lN (sp_at md (dx_neg e s X) (dx_m e s X) (dx_p e s X) 0 false)) := by
          rw [← whole_cls ok hmd]
          rfl
        rw [ew]
        generalize sp_at md (dx_neg e s X) (dx_m e s X) (dx_p e s X) 0 false = V at hvb
        dsimp only
        rw [within_cls hvb hw1 hw, show (if dx_neg e s X = true then (if p4 = true then decide (V ≤ 2 ^ (w - 1)) else decide (V = 0)) else (if p4 = true then decide (V ≤ 2 ^ (w - 1) - 1) else decide (V ≤ 2 ^ w - 1))) = inb V w (dx_neg e s X) p4 from rfl, tw_tail hvb hw1 hw, fg_negif_bit]
        cases inb V w (dx_neg e s X) p4 <;> exact ⟨rfl, rfl, fun _ => rfl⟩
