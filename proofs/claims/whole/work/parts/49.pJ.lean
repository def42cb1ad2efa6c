/-! PURE: is -/
def toldv (op : Int32) (neg inf nan z nm : Bool) : Bool := if op = 59 then nm else if op = 60 then (!nm && (!z && (!inf && !nan))) else if op = 61 then z else if op = 62 then inf else if op = 63 then nan else if op = 64 then (neg && !nan) else (!neg && !nan)
theorem told_lN {e s X : Nat} (ok : fw_ok e s) (hX : X < 2 ^ (e + s)) (op : Int32) (a0 : Int32) (a1 : Int32) (a2 : Bool) (a3 : Int64) (a4 : Int32) (a5 : Bool) (a6 : Bool) : fm_X6_told a0 a1 a2 a3 a4 a5 a6 op (lN X) (nI (1000 + 100 * e + s)) = (jl (toldv op (dx_neg e s X) (dx_inf e s X) (dx_nan e s X) (decide (dx_m e s X = 0) && (!dx_inf e s X && !dx_nan e s X)) (!dx_inf e s X && (!dx_nan e s X && decide (dx_fld e s X ≠ 0)))), a0, a1, dx_neg e s X, lN (dx_m e s X), iI (dx_p e s X), dx_inf e s X, dx_nan e s X) := by
  have hb := b_ok ok
  have h3 := ok.2.2.2
  have h4 := ok.2.2.1
  have hm := dx_m_lt (X := X) ok
  unfold fm_X6_told
  rw [take_lN ok hX]
  unfold fm_X6_told_s1
  dsimp only
  have e1 : (if lg_cmp (lN (dx_m e s X)) 0 = 0 then (if jb (dx_inf e s X) = 0 then (if jb (dx_nan e s X) = 0 then true else false) else false) else false) = (decide (dx_m e s X = 0) && (!dx_inf e s X && !dx_nan e s X)) := by
    rw [ite_n0 (by omega)]
    by_cases h : dx_m e s X = 0
    · rw [if_pos h, decide_eq_true h]
      cases dx_inf e s X <;> cases dx_nan e s X <;> rfl
    · rw [if_neg h, decide_eq_false h]
      rfl
  rw [e1]
  unfold fm_X6_told_s2
  dsimp only
  have e2 : (if jb (dx_inf e s X) = 0 then (if jb (dx_nan e s X) = 0 then (if lg_cmp (fc_ushr (lN (dx_m e s X)) (fm_X6_significand (nI (1000 + 100 * e + s)) - 1)) 1 = 0 then true else false) else false) else false) = (!dx_inf e s X && (!dx_nan e s X && decide (dx_fld e s X ≠ 0))) := by
    rw [ms_ok ok, show nI s - 1 = nI (s - 1) from nI_sub (b := 1) (by omega), fc_lN_ushr (by omega) (by omega), m_fld ok]
    by_cases h : dx_fld e s X = 0
    · rw [if_pos h, decide_eq_false (by simp [h])]
      cases dx_inf e s X <;> cases dx_nan e s X <;> rfl
    · rw [if_neg h, decide_eq_true h]
      cases dx_inf e s X <;> cases dx_nan e s X <;> rfl
  rw [e2]
  generalize (decide (dx_m e s X = 0) && (!dx_inf e s X && !dx_nan e s X)) = z
  generalize (!dx_inf e s X && (!dx_nan e s X && decide (dx_fld e s X ≠ 0))) = nm
  unfold fm_X6_told_s3
  dsimp only
  have e3 : (if op = 59 then nm else (if op = 60 then (if (jb nm) = 0 then (if (jb z) = 0 then (if (jb (dx_inf e s X)) = 0 then (if (jb (dx_nan e s X)) = 0 then true else false) else false) else false) else false) else (if op = 61 then z else (if op = 62 then dx_inf e s X else (if op = 63 then dx_nan e s X else (if op = 64 then (if (jb (dx_neg e s X)) = 0 then false else (if (jb (dx_nan e s X)) = 0 then true else false)) else (if (jb (dx_neg e s X)) = 0 then (if (jb (dx_nan e s X)) = 0 then true else false) else false))))))) = toldv op (dx_neg e s X) (dx_inf e s X) (dx_nan e s X) z nm := by
    unfold toldv
    congr 1
    congr 1
    · cases nm <;> cases z <;> cases dx_inf e s X <;> cases dx_nan e s X <;> rfl
    · congr 1
      congr 1
      congr 1
      congr 1
      · cases dx_neg e s X <;> cases dx_nan e s X <;> rfl
      · cases dx_neg e s X <;> cases dx_nan e s X <;> rfl
  rw [e3]
  cases toldv op (dx_neg e s X) (dx_inf e s X) (dx_nan e s X) z nm <;> rfl
theorem val_nan {e s X : Nat} (h : dx_nan e s X = true) : dx_val e s X = (true, false, 0, 0, 0) := by
  unfold dx_val
  rw [h, ite_t]
theorem val_inf {e s X : Nat} (h : dx_nan e s X = false) (hi : dx_inf e s X = true) : dx_val e s X = (false, true, fc_bit (dx_neg e s X), 0, 0) := by
  unfold dx_val
  rw [h, ite_f, hi, ite_t]
theorem val_fin {e s X : Nat} (h : dx_nan e s X = false) (hi : dx_inf e s X = false) : dx_val e s X = (false, false, fc_bit (dx_neg e s X), iL (dx_p e s X), lN (dx_m e s X)) := by
  unfold dx_val
  rw [h, ite_f, hi, ite_f]
theorem inf_not_nan {e s X : Nat} (h : dx_inf e s X = true) : dx_nan e s X = false := by
  unfold dx_inf at h
  unfold dx_nan
  have := of_decide_eq_true h
  rw [this]
  simp
theorem nan_not_inf {e s X : Nat} (h : dx_nan e s X = true) : dx_inf e s X = false := by
  cases hi : dx_inf e s X with
  | true => rw [inf_not_nan hi] at h; cases h
  | false => rfl
theorem ok_is : pf_is := by
  intro e s ok v hv p1 p2
  obtain ⟨a0, a1, a2, a3, a4, a5, a6⟩ := v
  dsimp only at hv ⊢
  subst hv
  have hc : (if jb (fm_X6_in p1 0 6) = 0 then false else if jb (fm_X6_isFloat (nI (1000 + 100 * e + s)) a1 a2 a3 a4 a5 a6 p2 (nI (1000 + 100 * e + s))) = 0 then false else true) = fc_X5_is (fm_X0_init_0 (nI e) (nI s)) (fm_X0_init_1 (nI e) (nI s)) (fm_X0_init_2 (nI e) (nI s)) (fm_X0_init_3 (nI e) (nI s)) (fm_X0_init_4 (nI e) (nI s)) (fm_X0_init_5 (nI e) (nI s)) p1 p2 := by
    rw [isFloat_eq ok, show fm_X6_in p1 0 6 = fm_X5_isWithin p1 0 6 from rfl]
    rfl
  unfold fm_X6_is
  rw [hc]
  cases hB : fc_X5_is (fm_X0_init_0 (nI e) (nI s)) (fm_X0_init_1 (nI e) (nI s)) (fm_X0_init_2 (nI e) (nI s)) (fm_X0_init_3 (nI e) (nI s)) (fm_X0_init_4 (nI e) (nI s)) (fm_X0_init_5 (nI e) (nI s)) p1 p2 with
  | false => exact ⟨rfl, rfl, fun h => by cases h⟩
  | true =>
    unfold fc_X5_is at hB
    rw [and_ite, and_ite] at hB
    obtain ⟨h1, h2⟩ := and_t hB
    obtain ⟨X, hX, rfl⟩ := holds_of ok (and_t h2).1
    obtain ⟨k, -, hk, rfl⟩ := within_of (lo := 0) (hi := 6) (by decide) (by decide) h1
    have hwx := w_lt ok hX
    have hm := dx_m_lt (X := X) ok
    unfold fm_X6_is_s1
    rw [good_T]
    unfold fm_X6_is_s2
    dsimp only
    rw [ite_jb, ite_t]
    unfold fm_X6_is_s4
    dsimp only
    rw [nI_l (n := X) (Nat.lt_trans hwx (by decide)), told_lN ok hX]
    unfold fm_X6_is_s5 fm_X6_is_s6 fm_X6_is_s7
    dsimp only
    unfold fm_X5_is
    dsimp only
    rw [unpack_nI ok hX, hidden_nI ok hX]
    cases hn : dx_nan e s X with
    | true =>
      have hi := nan_not_inf hn
      rw [hi, val_nan hn]
      rcases (show k = 0 ∨ k = 1 ∨ k = 2 ∨ k = 3 ∨ k = 4 ∨ k = 5 ∨ k = 6 by omega) with rfl | rfl | rfl | rfl | rfl | rfl | rfl <;> cases dx_neg e s X <;> cases decide (dx_m e s X = 0) <;> cases decide (dx_fld e s X ≠ 0) <;> exact ⟨rfl, rfl, fun _ => rfl⟩
    | false =>
      cases hi : dx_inf e s X with
      | true =>
        rw [val_inf hn hi]
        rcases (show k = 0 ∨ k = 1 ∨ k = 2 ∨ k = 3 ∨ k = 4 ∨ k = 5 ∨ k = 6 by omega) with rfl | rfl | rfl | rfl | rfl | rfl | rfl <;> cases dx_neg e s X <;> cases decide (dx_m e s X = 0) <;> cases decide (dx_fld e s X ≠ 0) <;> exact ⟨rfl, rfl, fun _ => rfl⟩
      | false =>
        rw [val_fin hn hi]
        dsimp only
        rw [isZero_f _ _ (m := dx_m e s X) (by omega)]
        rcases (show k = 0 ∨ k = 1 ∨ k = 2 ∨ k = 3 ∨ k = 4 ∨ k = 5 ∨ k = 6 by omega) with rfl | rfl | rfl | rfl | rfl | rfl | rfl <;> cases dx_neg e s X <;> cases decide (dx_m e s X = 0) <;> cases decide (dx_fld e s X ≠ 0) <;> exact ⟨rfl, rfl, fun _ => rfl⟩
