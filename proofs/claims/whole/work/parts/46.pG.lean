/-! PURE: the methods, one by one: format, is, least, compare -/
theorem within_of {x : Int32} {lo hi : Nat} (hl : lo ≤ hi) (hh : hi < 2 ^ 31) (h : fm_X5_isWithin x (nI lo) (nI hi) = true) : ∃ j : Nat, lo ≤ j ∧ j ≤ hi ∧ x = nI j := by
  unfold fm_X5_isWithin at h
  split at h
  · cases h
  · rename_i h1
    split at h
    · cases h
    · rename_i h2
      have h0 : ¬ x < 0 := by
        intro h3
        apply h1
        rw [Int32.lt_iff_toInt_lt] at h3 ⊢
        rw [nI_toInt (by omega)]
        have : (0 : Int32).toInt = 0 := rfl
        omega
      obtain ⟨j, g1, rfl⟩ := nI_of2 (n := hi) (nI_toInt hh) h0 (Int32.not_lt.mp h2)
      refine ⟨j, Nat.not_lt.mp (fun q => h1 (nI_lt q (by omega))), g1, rfl⟩
theorem mode_of {x : Int32} (h : fm_X5_isMode x = true) : ∃ j : Nat, j < 5 ∧ x = nI j := by
  obtain ⟨j, -, h2, h3⟩ := within_of (lo := 0) (hi := 4) (by decide) (by decide) h
  exact ⟨j, by omega, h3⟩
theorem and_ite (a b : Bool) : (if jb a = 0 then false else b) = (a && b) := by cases a <;> rfl
theorem and_t {a b : Bool} (h : (a && b) = true) : a = true ∧ b = true := by cases a <;> cases b <;> simp_all
theorem format_of {p1 p2 : Int32} (h : fm_X5_isFormat p1 p2 = true) : ∃ e s : Nat, fw_ok e s ∧ p1 = nI e ∧ p2 = nI s := by
  unfold fm_X5_isFormat at h
  rw [and_ite, and_ite] at h
  obtain ⟨h1, h2⟩ := and_t h
  obtain ⟨e, g1, g2, g3⟩ := within_of (lo := 2) (hi := 5) (by decide) (by decide) h1
  obtain ⟨s, k1, k2, k3⟩ := within_of (lo := 2) (hi := 11) (by decide) (by decide) (and_t h2).1
  exact ⟨e, s, ⟨g1, g2, k1, k2⟩, g3, k3⟩
theorem ok_format : pf_format := by
  intro v p1 p2
  have hc : fm_X6_isFormat p1 p2 = fc_X5_format p1 p2 := rfl
  simp only [fm_X6_format, fm_X6_format_s1, fm_X6_format_s3, fm_X6_format_s4, fm_X6_format_s2, fm_X6_good, fm_X6_good_s1]
  rw [hc]
  cases hB : fc_X5_format p1 p2 with
  | false => exact ⟨rfl, fun _ => rfl, fun h => by cases h⟩
  | true =>
    refine ⟨rfl, (fun h => by cases h), fun _ => ⟨rfl, ?_⟩⟩
    obtain ⟨e, s, ok, rfl, rfl⟩ := format_of hB
    refine ⟨e, s, ok, rfl, rfl, ?_⟩
    show 1000 + 100 * nI e + nI s = _
    rw [show (100 : Int32) * nI e = nI (100 * e) from (Int32.ofNat_mul 100 e).symm, show (1000 : Int32) = nI 1000 from rfl, nI_add, nI_add]
/-- a FLOAT with every NaN the one -/
def dx_can (e s X : Nat) : Nat := if dx_nan e s X = true then sp_inf e s + 2 ^ (s - 2) else X
theorem can_lt {e s X : Nat} (ok : fw_ok e s) (hX : X < 2 ^ (e + s)) : dx_can e s X < 2 ^ (e + s) := by
  have hb := b_ok ok
  unfold dx_can
  split <;> omega
theorem can_nan {e s X : Nat} (ok : fw_ok e s) : dx_nan e s (dx_can e s X) = dx_nan e s X := by
  have hb := b_ok ok
  unfold dx_can
  cases h : dx_nan e s X with
  | true =>
    rw [ite_t]
    unfold dx_nan dx_mag
    rw [Nat.mod_eq_of_lt (by omega), decide_eq_true_iff]
    omega
  | false => rw [ite_f]; exact h
theorem can_id {e s X : Nat} (h : dx_nan e s X = false) : dx_can e s X = X := by
  unfold dx_can
  rw [h, ite_f]
theorem can_n {e s X : Nat} (h : dx_nan e s X = true) : dx_can e s X = sp_inf e s + 2 ^ (s - 2) := by
  unfold dx_can
  rw [h, ite_t]
theorem canonical_lN {e s X : Nat} (ok : fw_ok e s) (hX : X < 2 ^ (e + s)) (a0 : Int32) (a1 : Int32) (a2 : Bool) (a3 : Int64) (a4 : Int32) (a5 : Bool) (a6 : Bool) : fm_X6_canonical a0 a1 a2 a3 a4 a5 a6 (lN X) (nI (1000 + 100 * e + s)) = (lN (dx_can e s X), a0, a1, dx_neg e s X, lN (dx_m e s X), iI (dx_p e s X), dx_inf e s X, dx_nan e s X) := by
  simp only [fm_X6_canonical, fm_X6_canonical_s1, fm_X6_canonical_s2, fm_X6_canonical_s3]
  rw [take_lN ok hX]
  dsimp only
  rw [ite_jb, me_ok ok, ms_ok ok, mn_ok ok]
  unfold dx_can
  cases dx_nan e s X <;> rfl
theorem m_fld {e s X : Nat} (ok : fw_ok e s) : dx_m e s X / 2 ^ (s - 1) = if dx_fld e s X = 0 then 0 else 1 := by
  have hf := dx_frac_lt (s := s) (X := X)
  have hp := Nat.pow_pos (n := s - 1) (show 0 < 2 by decide)
  unfold dx_m
  split
  · exact Nat.div_eq_of_lt hf
  · rw [Nat.add_div_right _ hp, Nat.div_eq_of_lt hf]
theorem rk_ref {e s X : Nat} (ok : fw_ok e s) (hX : X < 2 ^ (e + s)) : (if lg_cmp (lN (dx_m e s X)) 0 = 0 then (if jb (dx_inf e s X) = 0 then 0 else (if jb (dx_neg e s X) = 0 then lN X else 0 - (lN X &&& fm_X6_mask (fm_X6_width (nI (1000 + 100 * e + s)) - 1)))) else (if jb (dx_neg e s X) = 0 then lN X else 0 - (lN X &&& fm_X6_mask (fm_X6_width (nI (1000 + 100 * e + s)) - 1)))) = iL (dx_rk e s X) := by
  have hb := b_ok ok
  have hw := w_lt ok hX
  have hm := dx_m_lt (X := X) ok
  have h1 := ok.1
  have h2 := ok.2.1
  have h3 := ok.2.2.2
  have hsp := dx_split ok hX
  have hi := inf_pos ok
  have e1 : (if jb (dx_neg e s X) = 0 then lN X else 0 - (lN X &&& fm_X6_mask (fm_X6_width (nI (1000 + 100 * e + s)) - 1))) = iL (dx_rk e s X) := by
    rw [mw_ok ok, show nI (e + s) - 1 = nI (e + s - 1) from nI_sub (b := 1) (by omega), mm_ok (by omega), lN_mask (by omega) (by omega), ite_jb]
    unfold dx_rk
    cases hn : dx_neg e s X with
    | true => rw [ite_t, ite_t, show (0 : Int64) = iL 0 from rfl, iL_N, iL_sub]; unfold dx_mag; congr 1; omega
    | false =>
      rw [ite_f, ite_f, iL_N]
      rw [hn] at hsp
      congr 1
      simp at hsp
      omega
  rw [e1, ite_n0 (by omega)]
  by_cases h0 : dx_m e s X = 0
  · rw [if_pos h0, ite_jb]
    have h9 := (dx_m0 ok).mp h0
    have : dx_inf e s X = false := by
      unfold dx_inf
      rw [decide_eq_false_iff_not, h9]
      omega
    rw [this, ite_f]
    unfold dx_rk
    rw [h9]
    split <;> rfl
  · rw [if_neg h0]
def ordv (e s X Y : Nat) : Int32 := if dx_nan e s X = true then 2 else if dx_nan e s Y = true then 2 else if dx_rk e s X < dx_rk e s Y then -1 else if dx_rk e s Y < dx_rk e s X then 1 else 0
theorem order_lN {e s X Y : Nat} (ok : fw_ok e s) (hX : X < 2 ^ (e + s)) (hY : Y < 2 ^ (e + s)) (a0 : Int32) (a1 : Int32) (a2 : Bool) (a3 : Int64) (a4 : Int32) (a5 : Bool) (a6 : Bool) : fm_X6_order a0 a1 a2 a3 a4 a5 a6 (lN X) (lN Y) (nI (1000 + 100 * e + s)) = (ordv e s X Y, a0, a1, dx_neg e s Y, lN (dx_m e s Y), iI (dx_p e s Y), dx_inf e s Y, dx_nan e s Y) := by
  have h1 := rk_b (X := X) ok
  have h2 := rk_b (X := Y) ok
  simp only [fm_X6_order, fm_X6_order_s1, fm_X6_order_s2, fm_X6_order_s3, fm_X6_order_s4, fm_X6_order_s6, fm_X6_order_s5, fm_X6_order_s7, fm_X6_order_s9, fm_X6_order_s11, fm_X6_order_s12, fm_X6_order_s10, fm_X6_order_s8]
  rw [take_lN ok hX]
  dsimp only
  rw [take_lN ok hY]
  dsimp only
  rw [rk_ref ok hX, rk_ref ok hY, ite_cge, ite_cle, ite_jb, ite_jb]
  unfold ordv
  have q1 : (iL (dx_rk e s X) < iL (dx_rk e s Y)) ↔ dx_rk e s X < dx_rk e s Y := iL_lt (by omega) (by omega) (by omega) (by omega)
  have q2 : (iL (dx_rk e s Y) < iL (dx_rk e s X)) ↔ dx_rk e s Y < dx_rk e s X := iL_lt (by omega) (by omega) (by omega) (by omega)
  cases dx_nan e s X with
  | true => rfl
  | false =>
    cases dx_nan e s Y with
    | true => rfl
    | false =>
      rw [ite_f, ite_f, ite_f, ite_f]
      by_cases g1 : dx_rk e s X < dx_rk e s Y
      · rw [if_pos (q1.mpr g1), if_pos g1]
      · rw [if_neg (fun q => g1 (q1.mp q)), if_neg g1]
        by_cases g2 : dx_rk e s Y < dx_rk e s X
        · rw [if_pos (q2.mpr g2), if_pos g2]
        · rw [if_neg (fun q => g2 (q2.mp q)), if_neg g2]
