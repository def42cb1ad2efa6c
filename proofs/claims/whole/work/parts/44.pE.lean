/-! PURE: the reference's rounding -/
theorem nlz_step {a n j : Nat} (h : ¬ a < 2 ^ j) : a.log2 = (a / 2 ^ j).log2 + j ∧ a / 2 ^ j ≠ 0 := by
  have h0 : a / 2 ^ j ≠ 0 := by
    intro h1
    rcases Nat.div_eq_zero_iff.mp h1 with h2 | h2
    · exact absurd h2 (Nat.ne_of_gt (Nat.pow_pos (by decide)))
    · exact h h2
  exact ⟨fc_log2_div h0, h0⟩
/-- one halving of the search: n - log2 a stays -/
theorem nlz_half {a n : Nat} (j : Nat) (ha : a ≠ 0) (h31 : a < 2 ^ 31) (hj : j < 31) {k M sh N : Int32} (hk : k = -(nI j)) (hM : M = nI (2 ^ j)) (hs : sh = nI j) (hN : N = nI n) (hl : a.log2 ≤ n) : ∃ a' n' : Nat, a' ≠ 0 ∧ a' ≤ a ∧ a' < max (2 ^ j) (a / 2 ^ j + 1) ∧ a'.log2 ≤ n' ∧ n' - a'.log2 = n - a.log2 ∧ n' ≤ n ∧ (if nI a < M then N else N + k) = nI n' ∧ (if nI a < M then nI a else fc_iushr (nI a) sh) = nI a' := by
  subst hk hM hs hN
  have hj2 : 2 ^ j < 2 ^ 31 := Nat.pow_lt_pow_right (by decide) hj
  by_cases h : a < 2 ^ j
  · refine ⟨a, n, ha, Nat.le_refl _, by omega, hl, rfl, Nat.le_refl _, ?_, ?_⟩ <;> rw [if_pos (nI_lt h hj2)]
  · obtain ⟨h1, h2⟩ := nlz_step (n := 0) h
    refine ⟨a / 2 ^ j, n - j, h2, Nat.div_le_self _ _, by omega, by omega, by omega, by omega, ?_, ?_⟩
    · rw [if_neg (nI_nlt (by omega) h31), ← Int32.sub_eq_add_neg, nI_sub (by omega)]
    · rw [if_neg (nI_nlt (by omega) h31), fc_iushr_nI h31 (by omega)]
theorem j0_nI {a : Nat} (ha : a ≠ 0) (h31 : a < 2 ^ 31) : fm_J0_numberOfLeadingZeros (nI a) = nI (31 - a.log2) := by
  have hl := log2_lt ha h31
  unfold fm_J0_numberOfLeadingZeros
  rw [if_pos (show (0 : Int32) < nI a from nI_lt (a := 0) (by omega) h31)]
  dsimp only
  obtain ⟨a1, n1, g1, g2, g3, g4, g5, g6, g7, g8⟩ := nlz_half (n := 31) (k := -16) (M := 65536) (sh := 16) (N := 31) 16 ha h31 (by decide) (by decide) (by decide) (by decide) (by decide) (by omega)
  rw [g7, g8]
  obtain ⟨a2, n2, k1, k2, k3, k4, k5, k6, k7, k8⟩ := nlz_half (n := n1) (k := -8) (M := 256) (sh := 8) 8 g1 (by omega) (by decide) (by decide) (by decide) (by decide) rfl g4
  rw [k7, k8]
  obtain ⟨a3, n3, m1, m2, m3, m4, m5, m6, m7, m8⟩ := nlz_half (n := n2) (k := -4) (M := 16) (sh := 4) 4 k1 (by omega) (by decide) (by decide) (by decide) (by decide) rfl k4
  rw [m7, m8]
  obtain ⟨a4, n4, q1, q2, q3, q4, q5, q6, q7, q8⟩ := nlz_half (n := n3) (k := -2) (M := 4) (sh := 2) 2 m1 (by omega) (by decide) (by decide) (by decide) (by decide) rfl m4
  rw [q7, q8, show (1 : Int32) = nI 1 from rfl, fc_iushr_nI (by omega) (by decide)]
  have h4 : a4 < 4 := by omega
  have h5 : a4 / 2 ^ 1 = a4.log2 := by
    rcases (show a4 = 1 ∨ a4 = 2 ∨ a4 = 3 by omega) with rfl | rfl | rfl <;> decide
  rw [h5, nI_sub q4]
  congr 1
  omega
theorem j1_lN {m : Nat} (h0 : m ≠ 0) (h62 : m < 2 ^ 62) : fm_J1_numberOfLeadingZeros (lN m) = nI (63 - m.log2) := by
  have hl := log2_lt h0 h62
  unfold fm_J1_numberOfLeadingZeros
  dsimp only
  rw [show (32 : Int32) = nI 32 from rfl, fc_lN_ushr (by omega) (by decide), lN_32 (by omega)]
  by_cases h : m / 2 ^ 32 = 0
  · rw [if_pos (by rw [h]; rfl)]
    have hm : m < 2 ^ 32 := by omega
    by_cases h1 : m < 2 ^ 31
    · rw [lN_i, j0_nI h0 h1, nI_add]
      have := log2_lt h0 h1
      congr 1
      omega
    · have h2 : m.log2 = 31 := by
        have := log2_lt h0 hm
        have h3 := (Nat.log2_eq_iff (k := m.log2) h0).mp rfl
        have h4 : ¬ m.log2 + 1 ≤ 31 := fun q => by
          have := Nat.pow_le_pow_right (n := 2) (by decide) q
          omega
        omega
      rw [h2, lN_i]
      have hn : (nI m).toInt = (m : Int) - 2 ^ 32 := by
        rw [iI_N]
        show (Int32.ofInt m).toInt = _
        rw [Int32.toInt_ofInt]
        rw [show Int32.size = 4294967296 from rfl, Int.bmod_def]
        omega
      have h5 : ¬ (0 : Int32) < nI m := by
        rw [Int32.lt_iff_toInt_lt, hn]
        show ¬ (0 : Int) < _
        omega
      have h6 : ¬ nI m = 0 := by
        rw [← Int32.toInt_inj, hn]
        show ¬ _ = (0 : Int)
        omega
      unfold fm_J0_numberOfLeadingZeros
      rw [if_neg h5, if_neg h6]
      rfl
  · rw [if_neg (nI_ne0 (by omega) (by omega)), j0_nI h (by omega)]
    have := fc_log2_div h
    congr 1
    omega
theorem away_b {md : Nat} (hmd : md < 5) (neg odd hf ex : Bool) {h : Int32} (hh : (h = 1 ∧ hf = true ∧ ex = true) ∨ (h = 0 ∧ hf = true ∧ ex = false) ∨ (h = -1 ∧ hf = false) ∨ (h = -2 ∧ hf = false)) : fm_X6_away (nI md) neg odd (hf || ex) h = sp_up md neg odd hf ex := by
  rcases hh with ⟨rfl, rfl, rfl⟩ | ⟨rfl, rfl, rfl⟩ | ⟨rfl, rfl⟩ | ⟨rfl, rfl⟩
  · revert neg odd
    exact md_cases (P := fun md => ∀ neg odd : Bool, fm_X6_away (nI md) neg odd (true || true) 1 = sp_up md neg odd true true) (by decide +kernel) (by decide +kernel) (by decide +kernel) (by decide +kernel) (by decide +kernel) hmd
  · revert neg odd
    exact md_cases (P := fun md => ∀ neg odd : Bool, fm_X6_away (nI md) neg odd (true || false) 0 = sp_up md neg odd true false) (by decide +kernel) (by decide +kernel) (by decide +kernel) (by decide +kernel) (by decide +kernel) hmd
  · revert neg odd ex
    exact md_cases (P := fun md => ∀ neg odd ex : Bool, fm_X6_away (nI md) neg odd (false || ex) (-1) = sp_up md neg odd false ex) (by decide +kernel) (by decide +kernel) (by decide +kernel) (by decide +kernel) (by decide +kernel) hmd
  · revert neg odd ex
    exact md_cases (P := fun md => ∀ neg odd ex : Bool, fm_X6_away (nI md) neg odd (false || ex) (-2) = sp_up md neg odd false ex) (by decide +kernel) (by decide +kernel) (by decide +kernel) (by decide +kernel) (by decide +kernel) hmd
theorem cut_half {md lo h r b : Nat} (hmd : md < 5) (neg odd more : Bool) (h1 : lo = b * h + r) (hr : r < h) (hb : b = 0 ∨ b = 1) (hh : h < 2 ^ 62) :
    fm_X6_away (nI md) neg odd (if lg_cmp (lN lo) 0 = 0 then if jb more = 0 then false else true else true) (if jb (if lg_cmp (lN lo) 0 = 0 then if jb more = 0 then false else true else true) = 0 then -2 else if lg_cmp (lN lo) (lN h) = 0 then if jb more = 0 then 0 else 1 else if lg_cmp (lN lo) (lN h) ≤ 0 then -1 else 1) = sp_up md neg odd (decide (b = 1)) (decide (r ≠ 0) || more) := by
  have hlo : lo < 2 ^ 63 := by rcases hb with rfl | rfl <;> omega
  have e2 : (if lg_cmp (lN lo) 0 = 0 then if jb more = 0 then false else true else true) = (decide (b = 1) || (decide (r ≠ 0) || more)) := by
    rw [ite_c0, ite_jb]
    by_cases h0 : lo = 0
    · have hr0 : r = 0 := by omega
      have hb0 : b = 0 := by
        rcases hb with hb | hb
        · exact hb
        · subst hb; omega
      rw [if_pos (by rw [h0]; rfl)]
      subst hr0 hb0
      cases more <;> rfl
    · rw [if_neg (fun q : lN lo = 0 => h0 ((fc_lN_eq (a := lo) (b := 0) (by omega) (by omega)).mp q))]
      rcases hb with rfl | rfl
      · have : r ≠ 0 := by omega
        simp [this]
      · simp
  rw [e2]
  refine away_b hmd neg odd _ _ ?_
  have hc0 : (lg_cmp (lN lo) (lN h) = 0) ↔ lo = h := by rw [cmp_0, fc_lN_eq (by omega) (by omega)]
  have hcl : (lg_cmp (lN lo) (lN h) ≤ 0) ↔ lo ≤ h := by
    rw [cmp_le, iL_N, iL_N, iL_lt (by omega) (by omega) (by omega) (by omega)]
    omega
  rw [ite_jb, ite_jb]
  rcases hb with rfl | rfl
  · rw [Nat.zero_mul, Nat.zero_add] at h1
    subst h1
    have q1 : ¬ lg_cmp (lN lo) (lN h) = 0 := fun q => by have := hc0.mp q; omega
    rw [if_neg q1, if_pos (hcl.mpr (by omega))]
    by_cases hr0 : lo = 0
    · subst hr0
      cases more <;> simp
    · simp [hr0]
  · rw [Nat.one_mul] at h1
    rw [show decide (1 = 1) = true from rfl, Bool.true_or, if_pos rfl]
    by_cases hr0 : r = 0
    · rw [if_pos (hc0.mpr (by omega))]
      subst hr0
      cases more <;> simp
    · rw [if_neg (fun q => by have := hc0.mp q; omega), if_neg (fun q => by have := hcl.mp q; omega)]
      simp [hr0]
theorem cut_lN {md m n : Nat} (hmd : md < 5) (hm : m < 2 ^ 62) (hn1 : 1 ≤ n) (hn : n ≤ 62) (more neg : Bool) : fm_X6_cut (lN m) (nI n) more (nI md) neg = lN (sp_cut md neg m n more) := by
  have hp : (2 : Nat) ^ n = 2 * 2 ^ (n - 1) := by
    rw [← Nat.pow_succ']
    congr 1
    omega
  have hpp := Nat.pow_pos (n := n - 1) (show 0 < 2 by decide)
  have hpl : 2 ^ (n - 1) < 2 ^ 62 := Nat.pow_lt_pow_right (by decide) (by omega)
  have h1 : m % 2 ^ n = (m / 2 ^ (n - 1) % 2) * 2 ^ (n - 1) + m % 2 ^ (n - 1) := by
    rw [hp, Nat.mul_comm 2, Nat.mod_mul, Nat.add_comm, Nat.mul_comm]
  have hr : m % 2 ^ (n - 1) < 2 ^ (n - 1) := Nat.mod_lt _ hpp
  have hlo : m % 2 ^ n < 2 ^ 63 := by
    have := Nat.mod_lt m (Nat.pow_pos (n := n) (show 0 < 2 by decide))
    omega
  have hq : m / 2 ^ n < 2 ^ 62 := Nat.lt_of_le_of_lt (Nat.div_le_self _ _) hm
  unfold fm_X6_cut
  rw [if_pos (show (0 : Int32) < nI n from nI_lt (a := 0) (by omega) (by omega))]
  dsimp only
  have hle : nI n ≤ 62 := nI_le (b := 62) hn (by decide)
  rw [if_pos hle, if_pos hle, if_pos hle, fc_lN_ushr (by omega) (by omega), mm_ok (by omega), lN_mask (by omega) (by omega), show nI n - 1 = nI (n - 1) from nI_sub (b := 1) hn1, show fc_shl 1 (nI (n - 1)) = lN (2 ^ (n - 1)) by rw [show (1 : Int64) = lN 1 from rfl, fc_lN_shl 1 (by omega), Nat.one_mul], fc_lN_and1 (by omega)]
  have e1 : (if lg_cmp (lN (m / 2 ^ n % 2)) 1 = 0 then true else false) = decide (m / 2 ^ n % 2 = 1) := by
    rcases Nat.mod_two_eq_zero_or_one (m / 2 ^ n) with h | h <;> rw [h] <;> decide
  rw [e1, cut_half hmd neg _ more h1 hr (Nat.mod_two_eq_zero_or_one _) hpl]
  unfold sp_cut
  rw [if_neg (show ¬ n = 0 by omega)]
  cases sp_up md neg (decide (m / 2 ^ n % 2 = 1)) (decide (m / 2 ^ (n - 1) % 2 = 1)) (decide (m % 2 ^ (n - 1) ≠ 0) || more) with
  | true => exact lN_1 _
  | false => rfl
/-- the reference's cut, at a place that may lie on either side -/
theorem cut_at {md m : Nat} {p u : Int} (hmd : md < 5) (hm : m < 2 ^ 62) (h1 : u - p ≤ 62) (h2 : p - u ≤ 62) (more neg : Bool) (hb : m * 2 ^ (p - u).toNat < 2 ^ 62) : fm_X6_cut (lN m) (iI (u - p)) more (nI md) neg = lN (sp_at md neg m p u more) := by
  unfold sp_at
  by_cases h : u - p ≤ 0
  · unfold fm_X6_cut
    rw [if_neg (by rw [show (0 : Int32) = iI 0 from rfl, iI_lt (by omega) (by omega) (by omega) (by omega)]; omega), iI_neg, show iI (-(u - p)) = nI (p - u).toNat by rw [iI_N]; congr 1; omega, fc_lN_shl _ (by omega)]
    by_cases h0 : p ≤ u
    · rw [if_pos h0]
      unfold sp_cut
      rw [if_pos (by omega), show (p - u).toNat = 0 by omega, Nat.pow_zero, Nat.mul_one]
    · rw [if_neg h0]
  · rw [if_pos (by omega), show iI (u - p) = nI (u - p).toNat by rw [iI_N]; congr 1; omega, cut_lN hmd hm (by omega) (by omega)]
/-- what the reference's rounding asks of a number -/
def rk_in (e s m : Nat) (p : Int) : Prop := m ≠ 0 ∧ m < 2 ^ 60 ∧ -100 ≤ p ∧ p ≤ 100 ∧ sp_least e s - p ≤ 60
theorem unit_c {e s m : Nat} {p : Int} (ok : fw_ok e s) (h : rk_in e s m p) : -1000 ≤ sp_unit e s m p ∧ sp_unit e s m p ≤ 200 ∧ sp_unit e s m p - p ≤ 62 ∧ p - sp_unit e s m p ≤ 62 := by
  obtain ⟨h0, h1, h2, h3, h6⟩ := h
  have hl := l_ok ok
  have hg := log2_lt h0 h1
  have h4 := ok.2.2.2
  have h5 := ok.2.2.1
  unfold sp_unit
  split <;> omega
theorem shl_c {e s m : Nat} {p : Int} (ok : fw_ok e s) (h : rk_in e s m p) : m * 2 ^ (p - sp_unit e s m p).toNat < 2 ^ 62 := by
  obtain ⟨h0, h1, h2, h3, h6⟩ := h
  by_cases hc : p ≤ sp_unit e s m p
  · rw [show (p - sp_unit e s m p).toNat = 0 by omega, Nat.pow_zero]
    omega
  · have hh := at_b (e := e) (s := s) (md := 0) (p := p) (neg := false) (more := false) ok h0
    unfold sp_at at hh
    rw [if_neg hc] at hh
    omega
theorem ends_b {md : Nat} (hmd : md < 5) (neg : Bool) : (if nI md < 2 then true else (if nI md = 2 then (if (jb neg) = 0 then true else (if nI md = 3 then (if (jb neg) = 0 then false else true) else false)) else (if nI md = 3 then (if (jb neg) = 0 then false else true) else false))) = sp_end md neg := by
  revert neg
  exact md_cases (P := fun md => ∀ neg : Bool, (if nI md < 2 then true else (if nI md = 2 then (if (jb neg) = 0 then true else (if nI md = 3 then (if (jb neg) = 0 then false else true) else false)) else (if nI md = 3 then (if (jb neg) = 0 then false else true) else false))) = sp_end md neg) (by decide +kernel) (by decide +kernel) (by decide +kernel) (by decide +kernel) (by decide +kernel) hmd
theorem over_ok {e s : Nat} (ok : fw_ok e s) : (fc_shl ((fm_X6_mask (nI e)) - 1) (nI (s - 1))) ||| (fm_X6_mask (nI (s - 1))) = lN (sp_inf e s - 1) ∧ fc_shl (fm_X6_mask (nI e)) (nI (s - 1)) = lN (sp_inf e s) := ok_cases (P := fun e s => (fc_shl ((fm_X6_mask (nI e)) - 1) (nI (s - 1))) ||| (fm_X6_mask (nI (s - 1))) = lN (sp_inf e s - 1) ∧ fc_shl (fm_X6_mask (nI e)) (nI (s - 1)) = lN (sp_inf e s)) (by decide +kernel) ok
theorem sign_lN {e s : Nat} (ok : fw_ok e s) (neg : Bool) : (if jb neg = 0 then 0 else fc_shl 1 (nI e + nI (s - 1))) = lN (neg.toNat * 2 ^ (e + s - 1)) := by
  have h1 := ok.1
  have h2 := ok.2.1
  have h3 := ok.2.2.2
  have h4 := ok.2.2.1
  cases neg with
  | false => rw [show false.toNat * 2 ^ (e + s - 1) = 0 by simp]; rfl
  | true => rw [ite_jb, ite_t, nI_add, show (1 : Int64) = lN 1 from rfl, fc_lN_shl 1 (by omega), show e + (s - 1) = e + s - 1 by omega]; rfl
theorem sign_or {e s M : Nat} (ok : fw_ok e s) (hM : M < 2 ^ (e + s - 1)) (neg : Bool) : lN (neg.toNat * 2 ^ (e + s - 1)) ||| lN M = lN (neg.toNat * 2 ^ (e + s - 1) + M) := by
  have hb := b_ok ok
  have hn := Bool.toNat_le neg
  have hm : neg.toNat * 2 ^ (e + s - 1) ≤ 1 * 2 ^ (e + s - 1) := Nat.mul_le_mul_right _ hn
  exact fc_lN_or_add hM (by omega)
