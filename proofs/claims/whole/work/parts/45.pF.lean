/-! PURE: the reference's rounding is the class's -/
theorem shr1_ok {e s : Nat} (ok : fw_ok e s) : fc_shr (lN (2 * 2 ^ (s - 1))) 1 = lN (2 ^ (s - 1)) := ok_cases (P := fun _ s => fc_shr (lN (2 * 2 ^ (s - 1))) 1 = lN (2 ^ (s - 1))) (by decide +kernel) ok
theorem r229 {e s V k : Nat} (ok : fw_ok e s) (neg : Bool) (q0 : Int32) (q1 : Bool) (q2 : Int64) (q3 : Int32) (q4 : Bool) (q5 x1 : Int32) (x11 x12 x13 : Int32) (x16 : Int64) (hV : V < 2 * 2 ^ (s - 1)) (hk : 2 ^ (s - 1) ≤ V → k + 1 < 2 ^ e - 1) (hk2 : k < 2000) :
    fm_X6_round_229 q0 q1 q2 q3 q4 q5 x1 (nI (s - 1)) (nI (2 ^ (e - 1) - 1)) (lN (neg.toNat * 2 ^ (e + s - 1))) x11 x12 x13 x16 (iI (sp_least e s + k)) (lN V) = lN (neg.toNat * 2 ^ (e + s - 1) + (if V < 2 ^ (s - 1) then V else (k + 1) * 2 ^ (s - 1) + V % 2 ^ (s - 1))) := by
  have hb := b_ok ok
  have hl := l_ok ok
  have h3 := ok.2.2.2
  unfold fm_X6_round_229
  rw [show fc_shl 1 (nI (s - 1)) = lN (2 ^ (s - 1)) by rw [show (1 : Int64) = lN 1 from rfl, fc_lN_shl 1 (by omega), Nat.one_mul], ite_cge]
  have hc : (lN V < lN (2 ^ (s - 1))) ↔ V < 2 ^ (s - 1) := lN_lt (by omega) (by omega)
  have hw : 2 ^ (s - 1) ≤ 2 ^ (e + s - 1) := Nat.pow_le_pow_right (by decide) (by have := ok.1; omega)
  by_cases h : V < 2 ^ (s - 1)
  · rw [if_pos (hc.mpr h), if_pos h, sign_or ok (by omega)]
  · rw [if_neg (fun q => h (hc.mp q)), if_neg h, iI_N, iI_N, iI_add, iI_add, ← iI_N (s - 1)]
    have e1 : iI (sp_least e s + k + (s - 1 : Nat) + (2 ^ (e - 1) - 1 : Nat)) = nI (k + 1) := by
      rw [iI_N]
      congr 1
      omega
    have hk1 := hk (by omega)
    have hm : (k + 1) * 2 ^ (s - 1) ≤ (2 ^ e - 2) * 2 ^ (s - 1) := Nat.mul_le_mul_right _ (by omega)
    have hm2 : (2 ^ e - 2) * 2 ^ (s - 1) + 2 ^ (s - 1) = sp_inf e s := by
      unfold sp_inf
      rw [show 2 ^ e - 1 = (2 ^ e - 2) + 1 by omega, Nat.add_mul, Nat.one_mul]
    have hr : V % 2 ^ (s - 1) < 2 ^ (s - 1) := Nat.mod_lt _ (by omega)
    rw [e1, nI_l (by omega), fc_lN_shl _ (by omega), sign_or ok (by omega), mm_ok (by omega), lN_mask (by omega) (by omega)]
    have e2 : neg.toNat * 2 ^ (e + s - 1) + (k + 1) * 2 ^ (s - 1) = (neg.toNat * 2 ^ e + (k + 1)) * 2 ^ (s - 1) := by
      rw [Nat.add_mul (neg.toNat * 2 ^ e), Nat.mul_assoc neg.toNat, ← hb.2.2.2.2.2.2.2.2.2]
    have hn := Bool.toNat_le neg
    have hm3 : neg.toNat * 2 ^ (e + s - 1) ≤ 1 * 2 ^ (e + s - 1) := Nat.mul_le_mul_right _ hn
    rw [e2, fc_lN_or_add hr (by rw [← e2]; omega), ← e2, Nat.add_assoc]
theorem mround_lN {e s md m : Nat} {p : Int} (ok : fw_ok e s) (hmd : md < 5) (neg more : Bool) (h : rk_in e s m p) : fm_X6_round (nI md) neg (lN m) (iI p) more (nI (1000 + 100 * e + s)) = lN (rnd e s md neg m p more) := by
  have hb := b_ok ok
  have hl := l_ok ok
  have hu := unit_c ok h
  have hs := shl_c ok h
  have hg := sp_unit_ge e s m p
  have h3 := ok.2.2.2
  have h4 := ok.2.2.1
  obtain ⟨h0, h1, h2, h5, h6⟩ := h
  have hlg := log2_lt h0 h1
  have hhi := sp_at_hi e s md neg h0 p more (by omega)
  have hlo := sp_at_lo e s md neg h0 p more
  unfold fm_X6_round
  dsimp only
  rw [me_ok ok, ms_ok ok, show nI s - 1 = nI (s - 1) from nI_sub (b := 1) (by omega), mb_ok ok, sign_lN ok, ite_n0 (by omega), if_neg h0]
  unfold fm_X6_round_57
  dsimp only
  rw [j1_lN h0 (by omega)]
  have e11 : (64 : Int32) - nI (63 - m.log2) = iI (m.log2 + 1) := by
    rw [show (64 : Int32) = nI 64 from rfl, nI_sub (by omega), iI_N]
    congr 1
    omega
  have e12 : (1 : Int32) - nI (2 ^ (e - 1) - 1) - nI (s - 1) = iI (sp_least e s) := by
    rw [show (1 : Int32) = iI 1 from rfl, iI_N, iI_N, iI_sub, iI_sub]
    congr 1
    omega
  have e13 : iI p + iI (m.log2 + 1) - 1 - nI (s - 1) = iI (p + m.log2 - (s - 1 : Nat)) := by
    rw [show (1 : Int32) = iI 1 from rfl, iI_N, iI_add, iI_sub, iI_sub]
    congr 1
    omega
  rw [e11, e12, e13]
  have e14 : (if iI (p + m.log2 - (s - 1 : Nat)) ≤ iI (sp_least e s) then iI (sp_least e s) else iI (p + m.log2 - (s - 1 : Nat))) = iI (sp_unit e s m p) := by
    have hc : (iI (p + m.log2 - (s - 1 : Nat)) ≤ iI (sp_least e s)) ↔ p + m.log2 - (s - 1 : Nat) ≤ sp_least e s := iI_le (by omega) (by omega) (by omega) (by omega)
    unfold sp_unit
    by_cases hq : p + m.log2 - (s - 1 : Nat) ≤ sp_least e s
    · rw [if_pos (hc.mpr hq)]
      by_cases hq2 : p + m.log2 - (s - 1 : Nat) < sp_least e s
      · rw [if_pos hq2]
      · rw [if_neg hq2]
        congr 1
        omega
    · rw [if_neg (fun q => hq (hc.mp q)), if_neg (by omega)]
  rw [e14, iI_sub, cut_at hmd (by omega) (by omega) (by omega) more neg hs, ends_b hmd]
  unfold rnd
  rw [if_neg h0]
  unfold sp_round sp_pk
  generalize sp_at md neg m p (sp_unit e s m p) more = V at *
  obtain ⟨k, hk⟩ : ∃ k : Nat, sp_unit e s m p = sp_least e s + k := ⟨(sp_unit e s m p - sp_least e s).toNat, by omega⟩
  rw [hk] at hlo hu ⊢
  rw [show (sp_least e s + (k : Int) - sp_least e s).toNat = k by omega]
  have hpp : 1 ≤ 2 ^ (s - 1) := by omega
  have hmul : (2 ^ e - 2) * 2 ^ (s - 1) + 2 ^ (s - 1) = sp_inf e s := by
    unfold sp_inf
    rw [show 2 ^ e - 1 = (2 ^ e - 2) + 1 by omega, Nat.add_mul, Nat.one_mul]
  have key := sp_pack_cases (2 ^ (s - 1)) (2 ^ e - 2) k V (if sp_end md neg = true then sp_inf e s else sp_inf e s - 1) hpp hhi (fun q => by have := hlo q; omega) (by omega)
  rw [hmul] at key
  rw [← key]
  have e15 : fc_shl 1 (nI (s - 1) + 1) = lN (2 * 2 ^ (s - 1)) := by
    rw [show nI (s - 1) + 1 = nI (s - 1 + 1) from nI_1 _, show (1 : Int64) = lN 1 from rfl, fc_lN_shl 1 (by omega), Nat.one_mul, Nat.pow_succ, Nat.mul_comm]
  have e16 : (lg_cmp (lN V) (lN (2 * 2 ^ (s - 1))) = 0) ↔ V = 2 * 2 ^ (s - 1) := by
    rw [cmp_0, lN_eq (by omega) (by omega)]
  rw [e15]
  have e17 : (if lg_cmp (lN V) (lN (2 * 2 ^ (s - 1))) = 0 then iI (sp_least e s + k) + 1 else iI (sp_least e s + k)) = iI (sp_least e s + (if V = 2 * 2 ^ (s - 1) then k + 1 else k : Nat)) := by
    by_cases hq : V = 2 * 2 ^ (s - 1)
    · rw [if_pos (e16.mpr hq), if_pos hq, show (1 : Int32) = iI 1 from rfl, iI_add]
      congr 1
      omega
    · rw [if_neg (fun q => hq (e16.mp q)), if_neg hq]
  have e18 : (if lg_cmp (lN V) (lN (2 * 2 ^ (s - 1))) = 0 then fc_shr (lN V) 1 else lN V) = lN (if V = 2 * 2 ^ (s - 1) then 2 ^ (s - 1) else V) := by
    by_cases hq : V = 2 * 2 ^ (s - 1)
    · rw [if_pos (e16.mpr hq), if_pos hq, hq, shr1_ok ok]
    · rw [if_neg (fun q => hq (e16.mp q)), if_neg hq]
  rw [e17, e18]
  have hV' : (if V = 2 * 2 ^ (s - 1) then 2 ^ (s - 1) else V) < 2 * 2 ^ (s - 1) := by
    split <;> omega
  have hk' : (if V = 2 * 2 ^ (s - 1) then k + 1 else k) < 2000 := by
    split <;> omega
  generalize (if V = 2 * 2 ^ (s - 1) then 2 ^ (s - 1) else V) = V' at *
  generalize (if V = 2 * 2 ^ (s - 1) then k + 1 else k) = k' at *
  rw [show fc_shl 1 (nI (s - 1)) = lN (2 ^ (s - 1)) by rw [show (1 : Int64) = lN 1 from rfl, fc_lN_shl 1 (by omega), Nat.one_mul], ite_clt]
  have hc : (lN V' < lN (2 ^ (s - 1))) ↔ V' < 2 ^ (s - 1) := lN_lt (by omega) (by omega)
  have hc2 : (iI (sp_least e s + (k' : Nat)) + nI (s - 1) ≤ nI (2 ^ (e - 1) - 1)) ↔ k' < 2 ^ e - 2 := by
    rw [iI_N, iI_N, iI_add, iI_le (by omega) (by omega) (by omega) (by omega)]
    omega
  by_cases hA : V' < 2 ^ (s - 1)
  · rw [if_pos (hc.mpr hA), r229 ok neg _ _ _ _ _ _ _ _ _ _ _ hV' (fun q => by omega) hk', if_neg (show ¬ (2 ^ (s - 1) ≤ V' ∧ 2 ^ e - 2 ≤ k') from fun q => by omega)]
  · rw [if_neg (fun q => hA (hc.mp q))]
    by_cases hB : k' < 2 ^ e - 2
    · rw [if_pos (hc2.mpr hB), r229 ok neg _ _ _ _ _ _ _ _ _ _ _ hV' (fun q => by omega) hk', if_neg (show ¬ (2 ^ (s - 1) ≤ V' ∧ 2 ^ e - 2 ≤ k') from fun q => by omega)]
    · rw [if_neg (fun q => hB (hc2.mp q)), if_pos (show 2 ^ (s - 1) ≤ V' ∧ 2 ^ e - 2 ≤ k' from ⟨by omega, by omega⟩), ite_jb, (over_ok ok).1, (over_ok ok).2]
      have hi := inf_pos ok
      cases sp_end md neg with
      | true => rw [ite_t, ite_t, sign_or ok (by omega)]
      | false => rw [ite_f, ite_f, sign_or ok (by omega)]
