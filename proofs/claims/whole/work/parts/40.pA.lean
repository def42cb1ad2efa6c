/-! PURE: numbers in words; the constants of a format -/
def iL (z : Int) : Int64 := Int64.ofInt z
def iI (z : Int) : Int32 := Int32.ofInt z
theorem iL_toInt {z : Int} (h1 : -2 ^ 63 ≤ z) (h2 : z < 2 ^ 63) : (iL z).toInt = z := Int64.toInt_ofInt_of_le h1 (by omega)
theorem iI_toInt {z : Int} (h1 : -2 ^ 31 ≤ z) (h2 : z < 2 ^ 31) : (iI z).toInt = z := Int32.toInt_ofInt_of_le h1 (by omega)
theorem iL_N (n : Nat) : lN n = iL n := by
  unfold lN iL
  exact (Int64.ofInt_eq_ofNat).symm
theorem iI_N (n : Nat) : nI n = iI n := by
  unfold nI iI
  exact (Int32.ofInt_eq_ofNat).symm
theorem iL_add (a b : Int) : iL a + iL b = iL (a + b) := (Int64.ofInt_add a b).symm
theorem iL_sub (a b : Int) : iL a - iL b = iL (a - b) := (Int64.ofInt_sub a b).symm
theorem iL_neg (a : Int) : -iL a = iL (-a) := (Int64.ofInt_neg a).symm
theorem iI_add (a b : Int) : iI a + iI b = iI (a + b) := (Int32.ofInt_add a b).symm
theorem iI_sub (a b : Int) : iI a - iI b = iI (a - b) := (Int32.ofInt_sub a b).symm
theorem iI_neg (a : Int) : -iI a = iI (-a) := (Int32.ofInt_neg a).symm
theorem iI_L {z : Int} (h1 : -2 ^ 31 ≤ z) (h2 : z < 2 ^ 31) : (iI z).toInt64 = iL z := Int64.toInt_inj.mp (by rw [Int32.toInt_toInt64, iI_toInt h1 h2, iL_toInt (by omega) (by omega)])
theorem iL_lt {a b : Int} (h1 : -2 ^ 63 ≤ a) (h2 : a < 2 ^ 63) (h3 : -2 ^ 63 ≤ b) (h4 : b < 2 ^ 63) : iL a < iL b ↔ a < b := by
  rw [Int64.lt_iff_toInt_lt, iL_toInt h1 h2, iL_toInt h3 h4]
theorem iI_lt {a b : Int} (h1 : -2 ^ 31 ≤ a) (h2 : a < 2 ^ 31) (h3 : -2 ^ 31 ≤ b) (h4 : b < 2 ^ 31) : iI a < iI b ↔ a < b := by
  rw [Int32.lt_iff_toInt_lt, iI_toInt h1 h2, iI_toInt h3 h4]
theorem iI_le {a b : Int} (h1 : -2 ^ 31 ≤ a) (h2 : a < 2 ^ 31) (h3 : -2 ^ 31 ≤ b) (h4 : b < 2 ^ 31) : iI a ≤ iI b ↔ a ≤ b := by
  rw [Int32.le_iff_toInt_le, iI_toInt h1 h2, iI_toInt h3 h4]
theorem iL_eq {a b : Int} (h1 : -2 ^ 63 ≤ a) (h2 : a < 2 ^ 63) (h3 : -2 ^ 63 ≤ b) (h4 : b < 2 ^ 63) : iL a = iL b ↔ a = b := by
  rw [← Int64.toInt_inj, iL_toInt h1 h2, iL_toInt h3 h4]
theorem iI_eq {a b : Int} (h1 : -2 ^ 31 ≤ a) (h2 : a < 2 ^ 31) (h3 : -2 ^ 31 ≤ b) (h4 : b < 2 ^ 31) : iI a = iI b ↔ a = b := by
  rw [← Int32.toInt_inj, iI_toInt h1 h2, iI_toInt h3 h4]
theorem lN_32 {n : Nat} (h : n < 2 ^ 31) : (lN n).toInt32 = nI n := by
  rw [← nI_l h]
  exact Int32.toInt32_toInt64 _
theorem lt_tri (x y : Int64) : x < y ∨ x = y ∨ y < x := by
  rw [Int64.lt_iff_toInt_lt, Int64.lt_iff_toInt_lt, ← Int64.toInt_inj]
  omega
theorem cmp_0 (x y : Int64) : lg_cmp x y = 0 ↔ x = y := by
  unfold lg_cmp
  rcases lt_tri x y with h | h | h
  · simp [h, Int64.lt_asymm h, Int64.ne_of_lt h]
  · subst h; simp
  · simp [h, Int64.lt_asymm h, (Int64.ne_of_lt h).symm]
theorem cmp_lt (x y : Int64) : lg_cmp x y < 0 ↔ x < y := by
  unfold lg_cmp
  rcases lt_tri x y with h | h | h
  · simp [Int64.lt_asymm h, Int64.ne_of_lt h, h]
  · subst h; simp
  · simp [h, Int64.lt_asymm h]
theorem cmp_gt (x y : Int64) : 0 < lg_cmp x y ↔ y < x := by
  unfold lg_cmp
  rcases lt_tri x y with h | h | h
  · simp [h, Int64.lt_asymm h, Int64.ne_of_lt h]
  · subst h; simp
  · simp [h, Int64.lt_asymm h]
theorem cmp_le (x y : Int64) : lg_cmp x y ≤ 0 ↔ ¬ y < x := by
  rw [← cmp_gt, Int32.not_lt]
theorem cmp_ge (x y : Int64) : 0 ≤ lg_cmp x y ↔ ¬ x < y := by
  rw [← cmp_lt, Int32.not_lt]
theorem ok_cases {P : Nat → Nat → Prop} (h : ∀ e, e < 6 → ∀ s, s < 12 → 2 ≤ e → 2 ≤ s → P e s) {e s : Nat} (ok : fw_ok e s) : P e s := h e (by have := ok.2.1; omega) s (by have := ok.2.2.2; omega) ok.1 ok.2.2.1
theorem c0_ok {e s : Nat} (ok : fw_ok e s) : fm_X0_init_0 (nI e) (nI s) = nI (e + s) := ok_cases (P := fun e s => fm_X0_init_0 (nI e) (nI s) = nI (e + s)) (by decide +kernel) ok
theorem c1_ok {e s : Nat} (ok : fw_ok e s) : fm_X0_init_1 (nI e) (nI s) = nI (s - 1) := ok_cases (P := fun e s => fm_X0_init_1 (nI e) (nI s) = nI (s - 1)) (by decide +kernel) ok
theorem c2_ok {e s : Nat} (ok : fw_ok e s) : fm_X0_init_2 (nI e) (nI s) = nI (2 ^ (e + s - 1)) := ok_cases (P := fun e s => fm_X0_init_2 (nI e) (nI s) = nI (2 ^ (e + s - 1))) (by decide +kernel) ok
theorem c3_ok {e s : Nat} (ok : fw_ok e s) : fm_X0_init_3 (nI e) (nI s) = nI (sp_inf e s) := ok_cases (P := fun e s => fm_X0_init_3 (nI e) (nI s) = nI (sp_inf e s)) (by decide +kernel) ok
theorem c4_ok {e s : Nat} (ok : fw_ok e s) : fm_X0_init_4 (nI e) (nI s) = nI (sp_inf e s + 2 ^ (s - 2)) := ok_cases (P := fun e s => fm_X0_init_4 (nI e) (nI s) = nI (sp_inf e s + 2 ^ (s - 2))) (by decide +kernel) ok
theorem c5_ok {e s : Nat} (ok : fw_ok e s) : fm_X0_init_5 (nI e) (nI s) = iI (sp_least e s) := ok_cases (P := fun e s => fm_X0_init_5 (nI e) (nI s) = iI (sp_least e s)) (by decide +kernel) ok
theorem me_ok {e s : Nat} (ok : fw_ok e s) : fm_X6_exponent (nI (1000 + 100 * e + s)) = nI e := ok_cases (P := fun e s => fm_X6_exponent (nI (1000 + 100 * e + s)) = nI e) (by decide +kernel) ok
theorem ms_ok {e s : Nat} (ok : fw_ok e s) : fm_X6_significand (nI (1000 + 100 * e + s)) = nI s := ok_cases (P := fun e s => fm_X6_significand (nI (1000 + 100 * e + s)) = nI s) (by decide +kernel) ok
theorem mw_ok {e s : Nat} (ok : fw_ok e s) : fm_X6_width (nI (1000 + 100 * e + s)) = nI (e + s) := ok_cases (P := fun e s => fm_X6_width (nI (1000 + 100 * e + s)) = nI (e + s)) (by decide +kernel) ok
theorem mn_ok {e s : Nat} (ok : fw_ok e s) : fm_X6_nan (nI e) (nI s) = lN (sp_inf e s + 2 ^ (s - 2)) := ok_cases (P := fun e s => fm_X6_nan (nI e) (nI s) = lN (sp_inf e s + 2 ^ (s - 2))) (by decide +kernel) ok
theorem mb_ok {e s : Nat} (ok : fw_ok e s) : fc_ishl 1 (nI e - 1) - 1 = nI (2 ^ (e - 1) - 1) := ok_cases (P := fun e s => fc_ishl 1 (nI e - 1) - 1 = nI (2 ^ (e - 1) - 1)) (by decide +kernel) ok
theorem nI_sub {a b : Nat} (h : b ≤ a) : nI a - nI b = nI (a - b) := by
  rw [iI_N, iI_N, iI_N, iI_sub]
  congr 1
  omega
theorem mm_ok {w : Nat} (h : w < 64) : fm_X6_mask (nI w) = lN (2 ^ w - 1) := by
  unfold fm_X6_mask
  rw [show (1 : Int64) = lN 1 from rfl, fc_lN_shl 1 h, Nat.one_mul, iL_N, iL_N, iL_N, iL_sub]
  congr 1
  have := Nat.pow_pos (n := w) (show 0 < 2 by decide)
  omega
/-- bounds of a format's constants -/
theorem b0_ok {e s : Nat} (ok : fw_ok e s) : sp_inf e s + 2 ^ (s - 1) = 2 ^ (e + s - 1) := ok_cases (P := fun e s => sp_inf e s + 2 ^ (s - 1) = 2 ^ (e + s - 1)) (by decide +kernel) ok
theorem b1_ok {e s : Nat} (ok : fw_ok e s) : 2 ^ (e + s) = 2 * 2 ^ (e + s - 1) := ok_cases (P := fun e s => 2 ^ (e + s) = 2 * 2 ^ (e + s - 1)) (by decide +kernel) ok
theorem b2_ok {e s : Nat} (ok : fw_ok e s) : 2 ^ (e + s - 1) ≤ 32768 := ok_cases (P := fun e s => 2 ^ (e + s - 1) ≤ 32768) (by decide +kernel) ok
theorem b3_ok {e s : Nat} (ok : fw_ok e s) : 2 ^ (s - 1) = 2 * 2 ^ (s - 2) := ok_cases (P := fun e s => 2 ^ (s - 1) = 2 * 2 ^ (s - 2)) (by decide +kernel) ok
theorem b4_ok {e s : Nat} (ok : fw_ok e s) : 2 ^ (s - 1) ≤ 1024 := ok_cases (P := fun e s => 2 ^ (s - 1) ≤ 1024) (by decide +kernel) ok
theorem b5_ok {e s : Nat} (ok : fw_ok e s) : 1 ≤ 2 ^ (s - 2) := ok_cases (P := fun e s => 1 ≤ 2 ^ (s - 2)) (by decide +kernel) ok
theorem b6_ok {e s : Nat} (ok : fw_ok e s) : 2 ^ e ≤ 32 := ok_cases (P := fun e s => 2 ^ e ≤ 32) (by decide +kernel) ok
theorem b7_ok {e s : Nat} (ok : fw_ok e s) : 4 ≤ 2 ^ e := ok_cases (P := fun e s => 4 ≤ 2 ^ e) (by decide +kernel) ok
theorem b8_ok {e s : Nat} (ok : fw_ok e s) : 2 ^ e = 2 * 2 ^ (e - 1) := ok_cases (P := fun e s => 2 ^ e = 2 * 2 ^ (e - 1)) (by decide +kernel) ok
theorem b9_ok {e s : Nat} (ok : fw_ok e s) : 2 ^ (e + s - 1) = 2 ^ e * 2 ^ (s - 1) := ok_cases (P := fun e s => 2 ^ (e + s - 1) = 2 ^ e * 2 ^ (s - 1)) (by decide +kernel) ok
theorem b_ok {e s : Nat} (ok : fw_ok e s) : sp_inf e s + 2 ^ (s - 1) = 2 ^ (e + s - 1) ∧ 2 ^ (e + s) = 2 * 2 ^ (e + s - 1) ∧ 2 ^ (e + s - 1) ≤ 32768 ∧ 2 ^ (s - 1) = 2 * 2 ^ (s - 2) ∧ 2 ^ (s - 1) ≤ 1024 ∧ 1 ≤ 2 ^ (s - 2) ∧ 2 ^ e ≤ 32 ∧ 4 ≤ 2 ^ e ∧ 2 ^ e = 2 * 2 ^ (e - 1) ∧ 2 ^ (e + s - 1) = 2 ^ e * 2 ^ (s - 1) := ⟨b0_ok ok, b1_ok ok, b2_ok ok, b3_ok ok, b4_ok ok, b5_ok ok, b6_ok ok, b7_ok ok, b8_ok ok, b9_ok ok⟩
theorem l_ok {e s : Nat} (ok : fw_ok e s) : -24 ≤ sp_least e s ∧ sp_least e s ≤ -1 ∧ sp_least e s = 2 - (2 ^ (e - 1) : Nat) - (s - 1 : Nat) := ok_cases (P := fun e s => -24 ≤ sp_least e s ∧ sp_least e s ≤ -1 ∧ sp_least e s = 2 - (2 ^ (e - 1) : Nat) - (s - 1 : Nat)) (by decide +kernel) ok
