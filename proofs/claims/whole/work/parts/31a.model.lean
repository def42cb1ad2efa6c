/-- the reference's loop for the root: n bits to come -/
def fr_it (v : Int64) : Nat → Int64 → Int64
  | 0, r => r
  | n + 1, r => fr_it v n (if 0 < (lg_cmp ((r ||| (lN (2 ^ n))) * (r ||| (lN (2 ^ n)))) v) then r else (r ||| (lN (2 ^ n))))
theorem fr_half (n : Nat) : lN (2 ^ (n + 1) / 2) = lN (2 ^ n) := by rw [Nat.pow_succ, Nat.mul_div_cancel _ (by decide)]
theorem fr_pos {n : Nat} (h : n ≤ 31) : ¬ lg_cmp (lN (2 ^ n)) 0 ≤ 0 := by
  rw [lg_cmp_le]
  exact (by decide +kernel : ∀ n, n ≤ 31 → ¬ lN (2 ^ n) ≤ 0) n h
theorem fr_shr {n : Nat} (h : n ≤ 31) : fc_shr (lN (2 ^ n)) 1 = lN (2 ^ n / 2) := (by decide +kernel : ∀ n, n ≤ 31 → fc_shr (lN (2 ^ n)) 1 = lN (2 ^ n / 2)) n h
theorem ndX6_whole : yX6_whole.cls = RX6 ∧ yX6_whole.cls ≠ "java/lang/invoke/MethodHandle" ∧ yX6_whole.cls ≠ "java/lang/invoke/VarHandle" ∧ (parseMethodDescriptor yX6_whole.desc).map (fun d => d.parameters.length) = some 3 := by decide +kernel
def fm_X6_whole_s3 (h0_format : Int32) (h0_code : Int32) (h0_minus : Bool) (h0_m : Int64) (h0_power : Int32) (h0_infinite : Bool) (h0_none : Bool) (p1 : Int32) (p2 : Int64) (p3 : Int32) (z1 : fw_S7) : Int64 × fw_S7 := (fm_X6_nan (fm_X6_exponent p3) (fm_X6_significand p3), z1.1, z1.2.1, z1.2.2.1, z1.2.2.2.1, z1.2.2.2.2.1, z1.2.2.2.2.2.1, z1.2.2.2.2.2.2)
def fm_X6_whole_s9 (h0_format : Int32) (h0_code : Int32) (h0_minus : Bool) (h0_m : Int64) (h0_power : Int32) (h0_infinite : Bool) (h0_none : Bool) (p1 : Int32) (p2 : Int64) (p3 : Int32) (z1 : fw_S7) : Int64 × fw_S7 := (p2, z1.1, z1.2.1, z1.2.2.1, z1.2.2.2.1, z1.2.2.2.2.1, z1.2.2.2.2.2.1, z1.2.2.2.2.2.2)
def fm_X6_whole_s10 (h0_format : Int32) (h0_code : Int32) (h0_minus : Bool) (h0_m : Int64) (h0_power : Int32) (h0_infinite : Bool) (h0_none : Bool) (p1 : Int32) (p2 : Int64) (p3 : Int32) (z1 : fw_S7) (x6 : Int64) : Int64 × fw_S7 := (fm_X6_round p1 z1.2.2.1 x6 0 false p3, z1.1, z1.2.1, z1.2.2.1, z1.2.2.2.1, z1.2.2.2.2.1, z1.2.2.2.2.2.1, z1.2.2.2.2.2.2)
def fm_X6_whole_s8 (h0_format : Int32) (h0_code : Int32) (h0_minus : Bool) (h0_m : Int64) (h0_power : Int32) (h0_infinite : Bool) (h0_none : Bool) (p1 : Int32) (p2 : Int64) (p3 : Int32) (z1 : fw_S7) : Int64 × fw_S7 := fm_X6_whole_s10 h0_format h0_code h0_minus h0_m h0_power h0_infinite h0_none p1 p2 p3 z1 (fm_X6_cut z1.2.2.2.1 (-z1.2.2.2.2.1) false p1 z1.2.2.1)
def fm_X6_whole_s7 (h0_format : Int32) (h0_code : Int32) (h0_minus : Bool) (h0_m : Int64) (h0_power : Int32) (h0_infinite : Bool) (h0_none : Bool) (p1 : Int32) (p2 : Int64) (p3 : Int32) (z1 : fw_S7) : Int64 × fw_S7 := if z1.2.2.2.2.1 < 0 then fm_X6_whole_s8 h0_format h0_code h0_minus h0_m h0_power h0_infinite h0_none p1 p2 p3 z1 else fm_X6_whole_s9 h0_format h0_code h0_minus h0_m h0_power h0_infinite h0_none p1 p2 p3 z1
def fm_X6_whole_s6 (h0_format : Int32) (h0_code : Int32) (h0_minus : Bool) (h0_m : Int64) (h0_power : Int32) (h0_infinite : Bool) (h0_none : Bool) (p1 : Int32) (p2 : Int64) (p3 : Int32) (z1 : fw_S7) : Int64 × fw_S7 := (p2, z1.1, z1.2.1, z1.2.2.1, z1.2.2.2.1, z1.2.2.2.2.1, z1.2.2.2.2.2.1, z1.2.2.2.2.2.2)
def fm_X6_whole_s4 (h0_format : Int32) (h0_code : Int32) (h0_minus : Bool) (h0_m : Int64) (h0_power : Int32) (h0_infinite : Bool) (h0_none : Bool) (p1 : Int32) (p2 : Int64) (p3 : Int32) (z1 : fw_S7) : Int64 × fw_S7 := if (lg_cmp z1.2.2.2.1 0) = 0 then fm_X6_whole_s6 h0_format h0_code h0_minus h0_m h0_power h0_infinite h0_none p1 p2 p3 z1 else fm_X6_whole_s7 h0_format h0_code h0_minus h0_m h0_power h0_infinite h0_none p1 p2 p3 z1
def fm_X6_whole_s5 (h0_format : Int32) (h0_code : Int32) (h0_minus : Bool) (h0_m : Int64) (h0_power : Int32) (h0_infinite : Bool) (h0_none : Bool) (p1 : Int32) (p2 : Int64) (p3 : Int32) (z1 : fw_S7) : Int64 × fw_S7 := (p2, z1.1, z1.2.1, z1.2.2.1, z1.2.2.2.1, z1.2.2.2.2.1, z1.2.2.2.2.2.1, z1.2.2.2.2.2.2)
def fm_X6_whole_s2 (h0_format : Int32) (h0_code : Int32) (h0_minus : Bool) (h0_m : Int64) (h0_power : Int32) (h0_infinite : Bool) (h0_none : Bool) (p1 : Int32) (p2 : Int64) (p3 : Int32) (z1 : fw_S7) : Int64 × fw_S7 := if (jb z1.2.2.2.2.2.1) = 0 then fm_X6_whole_s4 h0_format h0_code h0_minus h0_m h0_power h0_infinite h0_none p1 p2 p3 z1 else fm_X6_whole_s5 h0_format h0_code h0_minus h0_m h0_power h0_infinite h0_none p1 p2 p3 z1
def fm_X6_whole_s1 (h0_format : Int32) (h0_code : Int32) (h0_minus : Bool) (h0_m : Int64) (h0_power : Int32) (h0_infinite : Bool) (h0_none : Bool) (p1 : Int32) (p2 : Int64) (p3 : Int32) (z1 : fw_S7) : Int64 × fw_S7 := if (jb z1.2.2.2.2.2.2) = 0 then fm_X6_whole_s2 h0_format h0_code h0_minus h0_m h0_power h0_infinite h0_none p1 p2 p3 z1 else fm_X6_whole_s3 h0_format h0_code h0_minus h0_m h0_power h0_infinite h0_none p1 p2 p3 z1
def fm_X6_whole (h0_format : Int32) (h0_code : Int32) (h0_minus : Bool) (h0_m : Int64) (h0_power : Int32) (h0_infinite : Bool) (h0_none : Bool) (p1 : Int32) (p2 : Int64) (p3 : Int32) : Int64 × fw_S7 := fm_X6_whole_s1 h0_format h0_code h0_minus h0_m h0_power h0_infinite h0_none p1 p2 p3 (fm_X6_take h0_format h0_code h0_minus h0_m h0_power h0_infinite h0_none p2 p3)
-- SIMP X6_whole: fm_X6_whole, fm_X6_whole_s1, fm_X6_whole_s2, fm_X6_whole_s5, fm_X6_whole_s4, fm_X6_whole_s6, fm_X6_whole_s7, fm_X6_whole_s8, fm_X6_whole_s10, fm_X6_whole_s9, fm_X6_whole_s3
set_option maxHeartbeats 4000000 in
set_option maxRecDepth 100000 in
theorem k_X6_whole (l : Launch) (dC : Nat → ClassId) (dI : Nat → Nat → Nat) (h0 : Nat) (h0_format : Int32) (h0_code : Int32) (h0_minus : Bool) (h0_m : Int64) (h0_power : Int32) (h0_infinite : Bool) (h0_none : Bool) (p1 : Int32) (p2 : Int64) (p3 : Int32) : Met l yX6_whole wsX6_whole { frames := 3, cells := 0, slots := 0, locals := 92 } (fw_R (dC, dI) vwCl [(h0, .inr (3, [.int h0_format, .int h0_code, .int (jb h0_minus), .long h0_m, .int h0_power, .int (jb h0_infinite), .int (jb h0_none)]))] [.ref h0, .int p1, .long p2, .int p3]) (fw_M (dC, dI) vwCl h0 3 (fw_sl (fm_X6_whole h0_format h0_code h0_minus h0_m h0_power h0_infinite h0_none p1 p2 p3).2) (some (.long ((fm_X6_whole h0_format h0_code h0_minus h0_m h0_power h0_infinite h0_none p1 p2 p3).1)))) 0 0 (fun q => q = h0) := by
  refine Met.ofW (cc := cX6_whole) (maxL := 7) (ret := (some .long)) (by decide) rfl ?_
  intro p e s m args below meth c s₁ B hml hv
  obtain ⟨rfl, hP, hK⟩ := hv
  have hx := B.exec
  have hb := B.bytes
  have hr := B.returns
  have hts := atoms_spec (ws := wsX6_whole) B.pre
  have htf : ∀ w ∈ fc_all, w.before _ s = true := fun w h => hts w (List.mem_cons_of_mem _ h)
  have hown : s.vm.findClass RX6 = some m.cls := findClass_of_methodNamed B.named
  have hlocks := B.notSynchronized
  have hP : va_P (dC, dI) vwCl [(h0, .inr (3, [.int h0_format, .int h0_code, .int (jb h0_minus), .long h0_m, .int h0_power, .int (jb h0_infinite), .int (jb h0_none)]))] s.heap := hP
  have hD : va_D (fun q => q = h0) [(h0, .inr (3, [.int h0_format, .int h0_code, .int (jb h0_minus), .long h0_m, .int h0_power, .int (jb h0_infinite), .int (jb h0_none)]))] := fw_D1 rfl
  have hS : va_S (fun q => q = h0) s.heap s.heap [] := va_S.rf
  have hl := lv_entry ([.ref h0, .int p1, .long p2, .int p3]) (n := 7) (Nat.le_of_ble_eq_true rfl)
  rw [lg_entry_eq]
  generalize (lg_sl ([.ref h0, .int p1, .long p2, .int p3]) ++ List.replicate (7 - (lg_sl ([.ref h0, .int p1, .long p2, .int p3])).length) Slot.unset).toArray = ls at hl ⊢
  have hl : lv_has ls 7 [(0, .ref h0), (1, .int p1), (2, .long p2), (4, .int p3)] := hl
  have hT : fm_X6_whole h0_format h0_code h0_minus h0_m h0_power h0_infinite h0_none p1 p2 p3 = fm_X6_whole h0_format h0_code h0_minus h0_m h0_power h0_infinite h0_none p1 p2 p3 := rfl
  refine lv_aload_n hx hb dX6_whole_0 rfl (lv_at hl 0 rfl) ?_
  refine lv_lload_n hx hb dX6_whole_1 rfl (lv_at hl 2 rfl) ?_
  refine lv_iload hx hb dX6_whole_2 (lv_at hl 3 rfl) ?_
  refine fw_callM (va_runV (As := [.long p2, .int p3]) (rest := []) ⟨hx, hb, hml, hown, htf⟩ (k_X6_take l dC dI h0 h0_format h0_code h0_minus h0_m h0_power h0_infinite h0_none p2 p3) (cwV 2 htf (gd_V wk400 wk401 ws9 wk3 wk402) rfl rfl rfl ndX6_take ⟨Nat.le_of_ble_eq_true rfl, Nat.le_of_ble_eq_true rfl⟩) (fw_RV (va_recv hK hP (ci := 3) (q0 := 0) rfl rfl) hP hK) rfl rfl hl.1 rfl (lv_room (Nat.le_of_ble_eq_true rfl)) dX6_whole_4 ⟨Nat.le_refl _, Nat.le_refl _⟩) hS rfl (fun H locs hP _ _ hS => ?_)
  have hT : fm_X6_whole h0_format h0_code h0_minus h0_m h0_power h0_infinite h0_none p1 p2 p3 = fm_X6_whole_s1 h0_format h0_code h0_minus h0_m h0_power h0_infinite h0_none p1 p2 p3 (fm_X6_take h0_format h0_code h0_minus h0_m h0_power h0_infinite h0_none p2 p3) := hT
  generalize ez1 : fm_X6_take h0_format h0_code h0_minus h0_m h0_power h0_infinite h0_none p2 p3 = z1 at hP hT ⊢
  have hP : va_P (dC, dI) vwCl [(h0, .inr (3, [.int z1.1, .int z1.2.1, .int (jb z1.2.2.1), .long z1.2.2.2.1, .int z1.2.2.2.2.1, .int (jb z1.2.2.2.2.2.1), .int (jb z1.2.2.2.2.2.2)]))] H := hP
  have hD : va_D (fun q => q = h0) [(h0, .inr (3, [.int z1.1, .int z1.2.1, .int (jb z1.2.2.1), .long z1.2.2.2.1, .int z1.2.2.2.2.1, .int (jb z1.2.2.2.2.2.1), .int (jb z1.2.2.2.2.2.2)]))] := fw_D1 rfl
  refine W.eq (g2 := F0 m 7 ls []) rfl ?_
  refine lv_aload_n hx hb dX6_whole_7 rfl (lv_at hl 0 rfl) ?_
  refine va_get (D := (dC, dI)) (ci := 3) (v := .int (jb z1.2.2.2.2.2.2)) (C := RX6) (T := TX6) (N := 7) hx hb htf hiX6 hown hK hP 0 rfl rfl 6 (by decide) (htf _ wk357) (fun _ h9 => h9) rfl dX6_whole_8 ?_
  refine lv_if_eq (tgt := 28) hx hb dX6_whole_11 (by decide) (fun c2 => ?_) (fun c2 => ?_)
  · have hT : fm_X6_whole h0_format h0_code h0_minus h0_m h0_power h0_infinite h0_none p1 p2 p3 = fm_X6_whole_s2 h0_format h0_code h0_minus h0_m h0_power h0_infinite h0_none p1 p2 p3 z1 := hT.trans (if_pos c2)
    refine lv_aload_n hx hb dX6_whole_28 rfl (lv_at hl 0 rfl) ?_
    refine va_get (D := (dC, dI)) (ci := 3) (v := .int (jb z1.2.2.2.2.2.1)) (C := RX6) (T := TX6) (N := 7) hx hb htf hiX6 hown hK hP 0 rfl rfl 5 (by decide) (htf _ wk356) (fun _ h9 => h9) rfl dX6_whole_29 ?_
    refine lv_if_ne (tgt := 51) hx hb dX6_whole_32 (by decide) (fun c3 => ?_) (fun c3 => ?_)
    · have hT : fm_X6_whole h0_format h0_code h0_minus h0_m h0_power h0_infinite h0_none p1 p2 p3 = fm_X6_whole_s5 h0_format h0_code h0_minus h0_m h0_power h0_infinite h0_none p1 p2 p3 z1 := hT.trans (if_neg c3)
      refine lv_lload_n hx hb dX6_whole_51 rfl (lv_at hl 2 rfl) ?_
      have hEQ : fm_X6_whole h0_format h0_code h0_minus h0_m h0_power h0_infinite h0_none p1 p2 p3 = (p2, z1.1, z1.2.1, z1.2.2.1, z1.2.2.2.1, z1.2.2.2.2.1, z1.2.2.2.2.2.1, z1.2.2.2.2.2.2) := hT
      exact W.lret (v := p2) hx hb hr (fun t ht hW => ⟨by simp only [hEQ], by rw [ht]; simp only [hEQ, fw_sl]; exact hP, hS.F ht⟩) hS.2.2 dX6_whole_52
    · have hT : fm_X6_whole h0_format h0_code h0_minus h0_m h0_power h0_infinite h0_none p1 p2 p3 = fm_X6_whole_s4 h0_format h0_code h0_minus h0_m h0_power h0_infinite h0_none p1 p2 p3 z1 := hT.trans (if_pos c3)
      refine lv_aload_n hx hb dX6_whole_35 rfl (lv_at hl 0 rfl) ?_
      refine va_get (D := (dC, dI)) (ci := 3) (v := .long z1.2.2.2.1) (C := RX6) (T := TX6) (N := 7) hx hb htf hiX6 hown hK hP 0 rfl rfl 3 (by decide) (htf _ wk354) (fun _ h9 => h9) rfl dX6_whole_36 ?_
      refine lv_lconst (v := 0) hx hb dX6_whole_39 (by decide) ?_
      refine W.lcmp hx hb dX6_whole_40 ?_
      refine lv_if_eq (tgt := 51) hx hb dX6_whole_41 (by decide) (fun c4 => ?_) (fun c4 => ?_)
      · have hT : fm_X6_whole h0_format h0_code h0_minus h0_m h0_power h0_infinite h0_none p1 p2 p3 = fm_X6_whole_s6 h0_format h0_code h0_minus h0_m h0_power h0_infinite h0_none p1 p2 p3 z1 := hT.trans (if_pos c4)
        refine lv_lload_n hx hb dX6_whole_51 rfl (lv_at hl 2 rfl) ?_
        have hEQ : fm_X6_whole h0_format h0_code h0_minus h0_m h0_power h0_infinite h0_none p1 p2 p3 = (p2, z1.1, z1.2.1, z1.2.2.1, z1.2.2.2.1, z1.2.2.2.2.1, z1.2.2.2.2.2.1, z1.2.2.2.2.2.2) := hT
        exact W.lret (v := p2) hx hb hr (fun t ht hW => ⟨by simp only [hEQ], by rw [ht]; simp only [hEQ, fw_sl]; exact hP, hS.F ht⟩) hS.2.2 dX6_whole_52
      · have hT : fm_X6_whole h0_format h0_code h0_minus h0_m h0_power h0_infinite h0_none p1 p2 p3 = fm_X6_whole_s7 h0_format h0_code h0_minus h0_m h0_power h0_infinite h0_none p1 p2 p3 z1 := hT.trans (if_neg c4)
        refine lv_aload_n hx hb dX6_whole_44 rfl (lv_at hl 0 rfl) ?_
        refine va_get (D := (dC, dI)) (ci := 3) (v := .int z1.2.2.2.2.1) (C := RX6) (T := TX6) (N := 7) hx hb htf hiX6 hown hK hP 0 rfl rfl 4 (by decide) (htf _ wk355) (fun _ h9 => h9) rfl dX6_whole_45 ?_
        refine lv_if_lt (tgt := 53) hx hb dX6_whole_48 (by decide) (fun c5 => ?_) (fun c5 => ?_)
        · have hT : fm_X6_whole h0_format h0_code h0_minus h0_m h0_power h0_infinite h0_none p1 p2 p3 = fm_X6_whole_s8 h0_format h0_code h0_minus h0_m h0_power h0_infinite h0_none p1 p2 p3 z1 := hT.trans (if_pos c5)
          refine lv_aload_n hx hb dX6_whole_53 rfl (lv_at hl 0 rfl) ?_
          refine va_get (D := (dC, dI)) (ci := 3) (v := .long z1.2.2.2.1) (C := RX6) (T := TX6) (N := 7) hx hb htf hiX6 hown hK hP 0 rfl rfl 3 (by decide) (htf _ wk354) (fun _ h9 => h9) rfl dX6_whole_54 ?_
          refine lv_aload_n hx hb dX6_whole_57 rfl (lv_at hl 0 rfl) ?_
          refine va_get (D := (dC, dI)) (ci := 3) (v := .int z1.2.2.2.2.1) (C := RX6) (T := TX6) (N := 7) hx hb htf hiX6 hown hK hP 0 rfl rfl 4 (by decide) (htf _ wk355) (fun _ h9 => h9) rfl dX6_whole_58 ?_
          refine lv_ineg hx hb dX6_whole_61 ?_
          refine lv_iconst (v := 0) hx hb dX6_whole_62 (by decide) ?_
          refine lv_iload_n hx hb dX6_whole_63 rfl (lv_at hl 1 rfl) ?_
          refine lv_aload_n hx hb dX6_whole_64 rfl (lv_at hl 0 rfl) ?_
          refine va_get (D := (dC, dI)) (ci := 3) (v := .int (jb z1.2.2.1)) (C := RX6) (T := TX6) (N := 7) hx hb htf hiX6 hown hK hP 0 rfl rfl 2 (by decide) (htf _ wk353) (fun _ h9 => h9) rfl dX6_whole_65 ?_
          refine fw_call (va_runS (As := [.long z1.2.2.2.1, .int (-z1.2.2.2.2.1), .int (jb false), .int p1, .int (jb z1.2.2.1)]) (rest := []) ⟨hx, hb, hml, hown, htf⟩ (k_X6_cut l z1.2.2.2.1 (-z1.2.2.2.2.1) false p1 z1.2.2.1) (va_cwS 5 htf (gd_S wk413 wk414 wk3 wk415) rfl rfl rfl ndX6_cut ⟨Nat.le_of_ble_eq_true rfl, Nat.le_of_ble_eq_true rfl⟩) fw_PS rfl rfl hl.1 rfl (lv_room (Nat.le_of_ble_eq_true rfl)) dX6_whole_68 ⟨Nat.le_refl _, Nat.le_refl _⟩) ?_
          refine lv_topl (fun x6 ex6 => ?_)
          have hT : fm_X6_whole h0_format h0_code h0_minus h0_m h0_power h0_infinite h0_none p1 p2 p3 = fm_X6_whole_s10 h0_format h0_code h0_minus h0_m h0_power h0_infinite h0_none p1 p2 p3 z1 x6 := by rw [ex6]; exact hT
          refine lv_lstore (lv' := [(5, .long x6), (0, .ref h0), (1, .int p1), (2, .long p2), (4, .int p3)]) hx hb dX6_whole_71 hl (by decide) rfl (fun ls hl => ?_)
          refine lv_iload_n hx hb dX6_whole_73 rfl (lv_at hl 2 rfl) ?_
          refine lv_aload_n hx hb dX6_whole_74 rfl (lv_at hl 1 rfl) ?_
          refine va_get (D := (dC, dI)) (ci := 3) (v := .int (jb z1.2.2.1)) (C := RX6) (T := TX6) (N := 7) hx hb htf hiX6 hown hK hP 0 rfl rfl 2 (by decide) (htf _ wk353) (fun _ h9 => h9) rfl dX6_whole_75 ?_
          refine lv_lload hx hb dX6_whole_78 (lv_at hl 0 rfl) ?_
          refine lv_iconst (v := 0) hx hb dX6_whole_80 (by decide) ?_
          refine lv_iconst (v := 0) hx hb dX6_whole_81 (by decide) ?_
          refine lv_iload hx hb dX6_whole_82 (lv_at hl 4 rfl) ?_
          refine fw_call (va_runS (As := [.int p1, .int (jb z1.2.2.1), .long x6, .int 0, .int (jb false), .int p3]) (rest := []) ⟨hx, hb, hml, hown, htf⟩ (k_X6_round l p1 z1.2.2.1 x6 0 false p3) (va_cwS 6 htf (gd_S wk403 wk404 wk3 wk405) rfl rfl rfl ndX6_round ⟨Nat.le_of_ble_eq_true rfl, Nat.le_of_ble_eq_true rfl⟩) fw_PS rfl rfl hl.1 rfl (lv_room (Nat.le_of_ble_eq_true rfl)) dX6_whole_84 ⟨Nat.le_refl _, Nat.le_refl _⟩) ?_
          have hEQ : fm_X6_whole h0_format h0_code h0_minus h0_m h0_power h0_infinite h0_none p1 p2 p3 = (fm_X6_round p1 z1.2.2.1 x6 0 false p3, z1.1, z1.2.1, z1.2.2.1, z1.2.2.2.1, z1.2.2.2.2.1, z1.2.2.2.2.2.1, z1.2.2.2.2.2.2) := hT
          exact W.lret (v := fm_X6_round p1 z1.2.2.1 x6 0 false p3) hx hb hr (fun t ht hW => ⟨by simp only [hEQ], by rw [ht]; simp only [hEQ, fw_sl]; exact hP, hS.F ht⟩) hS.2.2 dX6_whole_87
        · have hT : fm_X6_whole h0_format h0_code h0_minus h0_m h0_power h0_infinite h0_none p1 p2 p3 = fm_X6_whole_s9 h0_format h0_code h0_minus h0_m h0_power h0_infinite h0_none p1 p2 p3 z1 := hT.trans (if_neg c5)
          refine lv_lload_n hx hb dX6_whole_51 rfl (lv_at hl 2 rfl) ?_
          have hEQ : fm_X6_whole h0_format h0_code h0_minus h0_m h0_power h0_infinite h0_none p1 p2 p3 = (p2, z1.1, z1.2.1, z1.2.2.1, z1.2.2.2.1, z1.2.2.2.2.1, z1.2.2.2.2.2.1, z1.2.2.2.2.2.2) := hT
          exact W.lret (v := p2) hx hb hr (fun t ht hW => ⟨by simp only [hEQ], by rw [ht]; simp only [hEQ, fw_sl]; exact hP, hS.F ht⟩) hS.2.2 dX6_whole_52
  · have hT : fm_X6_whole h0_format h0_code h0_minus h0_m h0_power h0_infinite h0_none p1 p2 p3 = fm_X6_whole_s3 h0_format h0_code h0_minus h0_m h0_power h0_infinite h0_none p1 p2 p3 z1 := hT.trans (if_neg c2)
    refine lv_iload hx hb dX6_whole_14 (lv_at hl 3 rfl) ?_
    refine fw_call (va_runS (As := [.int p3]) (rest := []) ⟨hx, hb, hml, hown, htf⟩ (k_X6_exponent l p3) (va_cwS 1 htf (gd_S wk385 wk386 wk3 wk387) rfl rfl rfl ndX6_exponent ⟨Nat.le_of_ble_eq_true rfl, Nat.le_of_ble_eq_true rfl⟩) fw_PS rfl rfl hl.1 rfl (lv_room (Nat.le_of_ble_eq_true rfl)) dX6_whole_16 ⟨Nat.le_refl _, Nat.le_refl _⟩) ?_
    refine lv_iload hx hb dX6_whole_19 (lv_at hl 3 rfl) ?_
    refine fw_call (va_runS (As := [.int p3]) (rest := [.int (fm_X6_exponent p3)]) ⟨hx, hb, hml, hown, htf⟩ (k_X6_significand l p3) (va_cwS 1 htf (gd_S wk388 wk389 wk3 wk390) rfl rfl rfl ndX6_significand ⟨Nat.le_of_ble_eq_true rfl, Nat.le_of_ble_eq_true rfl⟩) fw_PS rfl rfl hl.1 rfl (lv_room (Nat.le_of_ble_eq_true rfl)) dX6_whole_21 ⟨Nat.le_refl _, Nat.le_refl _⟩) ?_
    refine fw_call (va_runS (As := [.int (fm_X6_exponent p3), .int (fm_X6_significand p3)]) (rest := []) ⟨hx, hb, hml, hown, htf⟩ (k_X6_nan l (fm_X6_exponent p3) (fm_X6_significand p3)) (va_cwS 2 htf (gd_S wk397 wk398 wk3 wk399) rfl rfl rfl ndX6_nan ⟨Nat.le_of_ble_eq_true rfl, Nat.le_of_ble_eq_true rfl⟩) fw_PS rfl rfl hl.1 rfl (lv_room (Nat.le_of_ble_eq_true rfl)) dX6_whole_24 ⟨Nat.le_refl _, Nat.le_refl _⟩) ?_
    have hEQ : fm_X6_whole h0_format h0_code h0_minus h0_m h0_power h0_infinite h0_none p1 p2 p3 = (fm_X6_nan (fm_X6_exponent p3) (fm_X6_significand p3), z1.1, z1.2.1, z1.2.2.1, z1.2.2.2.1, z1.2.2.2.2.1, z1.2.2.2.2.2.1, z1.2.2.2.2.2.2) := hT
    exact W.lret (v := fm_X6_nan (fm_X6_exponent p3) (fm_X6_significand p3)) hx hb hr (fun t ht hW => ⟨by simp only [hEQ], by rw [ht]; simp only [hEQ, fw_sl]; exact hP, hS.F ht⟩) hS.2.2 dX6_whole_27
