theorem ndX6_reckon : yX6_reckon.cls = RX6 ∧ yX6_reckon.cls ≠ "java/lang/invoke/MethodHandle" ∧ yX6_reckon.cls ≠ "java/lang/invoke/VarHandle" ∧ (parseMethodDescriptor yX6_reckon.desc).map (fun d => d.parameters.length) = some 4 := by decide +kernel
def fm_X6_reckon_s3 (h0_format : Int32) (h0_code : Int32) (h0_minus : Bool) (h0_m : Int64) (h0_power : Int32) (h0_infinite : Bool) (h0_none : Bool) (p1 : Int32) (p2 : Int32) (p3 : Int32) (p4 : Int32) (x1 : Bool) (z7 : Bool × fw_S7) : Int32 × fw_S7 := (0, z7.2.1, z7.2.2.1, z7.2.2.2.1, z7.2.2.2.2.1, z7.2.2.2.2.2.1, z7.2.2.2.2.2.2.1, z7.2.2.2.2.2.2.2)
def fm_X6_reckon_s5 (h0_format : Int32) (h0_code : Int32) (h0_minus : Bool) (h0_m : Int64) (h0_power : Int32) (h0_infinite : Bool) (h0_none : Bool) (p1 : Int32) (p2 : Int32) (p3 : Int32) (p4 : Int32) (x1 : Bool) (z7 : Bool × fw_S7) (z9 : Int64 × fw_S7) : Int32 × fw_S7 := (z9.1.toInt32, z9.2.1, z9.2.2.1, z9.2.2.2.1, z9.2.2.2.2.1, z9.2.2.2.2.2.1, z9.2.2.2.2.2.2.1, z9.2.2.2.2.2.2.2)
def fm_X6_reckon_s4 (h0_format : Int32) (h0_code : Int32) (h0_minus : Bool) (h0_m : Int64) (h0_power : Int32) (h0_infinite : Bool) (h0_none : Bool) (p1 : Int32) (p2 : Int32) (p3 : Int32) (p4 : Int32) (x1 : Bool) (z7 : Bool × fw_S7) : Int32 × fw_S7 := fm_X6_reckon_s5 h0_format h0_code h0_minus h0_m h0_power h0_infinite h0_none p1 p2 p3 p4 x1 z7 (fm_X6_arithmetic z7.2.1 z7.2.2.1 z7.2.2.2.1 z7.2.2.2.2.1 z7.2.2.2.2.2.1 z7.2.2.2.2.2.2.1 z7.2.2.2.2.2.2.2 (46 + p1) p2 p3.toInt64 p4.toInt64 z7.2.1)
def fm_X6_reckon_s2 (h0_format : Int32) (h0_code : Int32) (h0_minus : Bool) (h0_m : Int64) (h0_power : Int32) (h0_infinite : Bool) (h0_none : Bool) (p1 : Int32) (p2 : Int32) (p3 : Int32) (p4 : Int32) (x1 : Bool) (z7 : Bool × fw_S7) : Int32 × fw_S7 := if (jb z7.1) = 0 then fm_X6_reckon_s3 h0_format h0_code h0_minus h0_m h0_power h0_infinite h0_none p1 p2 p3 p4 x1 z7 else fm_X6_reckon_s4 h0_format h0_code h0_minus h0_m h0_power h0_infinite h0_none p1 p2 p3 p4 x1 z7
def fm_X6_reckon_s1 (h0_format : Int32) (h0_code : Int32) (h0_minus : Bool) (h0_m : Int64) (h0_power : Int32) (h0_infinite : Bool) (h0_none : Bool) (p1 : Int32) (p2 : Int32) (p3 : Int32) (p4 : Int32) (x1 : Bool) : Int32 × fw_S7 := fm_X6_reckon_s2 h0_format h0_code h0_minus h0_m h0_power h0_infinite h0_none p1 p2 p3 p4 x1 (fm_X6_good h0_format h0_code h0_minus h0_m h0_power h0_infinite h0_none x1)
def fm_X6_reckon (h0_format : Int32) (h0_code : Int32) (h0_minus : Bool) (h0_m : Int64) (h0_power : Int32) (h0_infinite : Bool) (h0_none : Bool) (p1 : Int32) (p2 : Int32) (p3 : Int32) (p4 : Int32) : Int32 × fw_S7 := fm_X6_reckon_s1 h0_format h0_code h0_minus h0_m h0_power h0_infinite h0_none p1 p2 p3 p4 (if (jb (fm_X6_in p1 0 3)) = 0 then false else (if (jb (fm_X6_in p2 0 4)) = 0 then false else (if (jb (fm_X6_isFloat h0_format h0_code h0_minus h0_m h0_power h0_infinite h0_none p3 h0_format)) = 0 then false else (if (jb (fm_X6_isFloat h0_format h0_code h0_minus h0_m h0_power h0_infinite h0_none p4 h0_format)) = 0 then false else true))))
-- SIMP X6_reckon: fm_X6_reckon, fm_X6_reckon_s1, fm_X6_reckon_s2, fm_X6_reckon_s4, fm_X6_reckon_s5, fm_X6_reckon_s3
set_option maxHeartbeats 4000000 in
set_option maxRecDepth 100000 in
theorem k_X6_reckon (l : Launch) (dC : Nat → ClassId) (dI : Nat → Nat → Nat) (h0 : Nat) (h0_format : Int32) (h0_code : Int32) (h0_minus : Bool) (h0_m : Int64) (h0_power : Int32) (h0_infinite : Bool) (h0_none : Bool) (p1 : Int32) (p2 : Int32) (p3 : Int32) (p4 : Int32) : Met l yX6_reckon wsX6_reckon { frames := 4, cells := 0, slots := 0, locals := 137 } (fw_R (dC, dI) vwCl [(h0, .inr (3, [.int h0_format, .int h0_code, .int (jb h0_minus), .long h0_m, .int h0_power, .int (jb h0_infinite), .int (jb h0_none)]))] [.ref h0, .int p1, .int p2, .int p3, .int p4]) (fw_M (dC, dI) vwCl h0 3 (fw_sl (fm_X6_reckon h0_format h0_code h0_minus h0_m h0_power h0_infinite h0_none p1 p2 p3 p4).2) (some (.int ((fm_X6_reckon h0_format h0_code h0_minus h0_m h0_power h0_infinite h0_none p1 p2 p3 p4).1)))) 0 0 (fun q => q = h0) := by
  refine Met.ofW (cc := cX6_reckon) (maxL := 5) (ret := (some .int)) (by decide) rfl ?_
  intro p e s m args below meth c s₁ B hml hv
  obtain ⟨rfl, hP, hK⟩ := hv
  have hx := B.exec
  have hb := B.bytes
  have hr := B.returns
  have hts := atoms_spec (ws := wsX6_reckon) B.pre
  have htf : ∀ w ∈ fc_all, w.before _ s = true := fun w h => hts w (List.mem_cons_of_mem _ h)
  have hown : s.vm.findClass RX6 = some m.cls := findClass_of_methodNamed B.named
  have hlocks := B.notSynchronized
  have hP : va_P (dC, dI) vwCl [(h0, .inr (3, [.int h0_format, .int h0_code, .int (jb h0_minus), .long h0_m, .int h0_power, .int (jb h0_infinite), .int (jb h0_none)]))] s.heap := hP
  have hD : va_D (fun q => q = h0) [(h0, .inr (3, [.int h0_format, .int h0_code, .int (jb h0_minus), .long h0_m, .int h0_power, .int (jb h0_infinite), .int (jb h0_none)]))] := fw_D1 rfl
  have hS : va_S (fun q => q = h0) s.heap s.heap [] := va_S.rf
  have hl := lv_entry ([.ref h0, .int p1, .int p2, .int p3, .int p4]) (n := 5) (Nat.le_of_ble_eq_true rfl)
  rw [lg_entry_eq]
  generalize (lg_sl ([.ref h0, .int p1, .int p2, .int p3, .int p4]) ++ List.replicate (5 - (lg_sl ([.ref h0, .int p1, .int p2, .int p3, .int p4])).length) Slot.unset).toArray = ls at hl ⊢
  have hl : lv_has ls 5 [(0, .ref h0), (1, .int p1), (2, .int p2), (3, .int p3), (4, .int p4)] := hl
  have hT : fm_X6_reckon h0_format h0_code h0_minus h0_m h0_power h0_infinite h0_none p1 p2 p3 p4 = fm_X6_reckon h0_format h0_code h0_minus h0_m h0_power h0_infinite h0_none p1 p2 p3 p4 := rfl
  refine lv_aload_n hx hb dX6_reckon_0 rfl (lv_at hl 0 rfl) ?_
  refine lv_iload_n hx hb dX6_reckon_1 rfl (lv_at hl 1 rfl) ?_
  refine lv_iconst (v := 0) hx hb dX6_reckon_2 (by decide) ?_
  refine lv_iconst (v := 3) hx hb dX6_reckon_3 (by decide) ?_
  refine fw_call (va_runS (As := [.int p1, .int 0, .int 3]) (rest := [.ref h0]) ⟨hx, hb, hml, hown, htf⟩ (k_X6_in l p1 0 3) (va_cwS 3 htf (gd_S wk369 wk370 wk3 wk371) rfl rfl rfl ndX6_in ⟨Nat.le_of_ble_eq_true rfl, Nat.le_of_ble_eq_true rfl⟩) fw_PS rfl rfl hl.1 rfl (lv_room (Nat.le_of_ble_eq_true rfl)) dX6_reckon_4 ⟨Nat.le_refl _, Nat.le_refl _⟩) ?_
  refine fw_join (j := 49) (ι := Bool) (LS := fun i ls => lv_has ls 5 [(0, .ref h0), (1, .int p1), (2, .int p2), (3, .int p3), (4, .int p4)] ∧ i = (if (jb (fm_X6_in p1 0 3)) = 0 then false else (if (jb (fm_X6_in p2 0 4)) = 0 then false else (if (jb (fm_X6_isFloat h0_format h0_code h0_minus h0_m h0_power h0_infinite h0_none p3 h0_format)) = 0 then false else (if (jb (fm_X6_isFloat h0_format h0_code h0_minus h0_m h0_power h0_infinite h0_none p4 h0_format)) = 0 then false else true))))) (ST := fun i => [.int (jb i), .ref h0]) ?_ (fun J2 => ?_)
  rotate_left
  · refine lv_if_eq (tgt := 48) hx hb dX6_reckon_7 (by decide) (fun c3 => ?_) (fun c3 => ?_)
    · refine lv_iconst (v := 0) hx hb dX6_reckon_48 (by decide) ?_
      exact J2 false ls ⟨lv_sub hl [0, 1, 2, 3, 4] rfl, by simp only [if_pos c3] <;> first | assumption | contradiction⟩
    · refine lv_iload_n hx hb dX6_reckon_10 rfl (lv_at hl 2 rfl) ?_
      refine lv_iconst (v := 0) hx hb dX6_reckon_11 (by decide) ?_
      refine lv_iconst (v := 4) hx hb dX6_reckon_12 (by decide) ?_
      refine fw_call (va_runS (As := [.int p2, .int 0, .int 4]) (rest := [.ref h0]) ⟨hx, hb, hml, hown, htf⟩ (k_X6_in l p2 0 4) (va_cwS 3 htf (gd_S wk369 wk370 wk3 wk371) rfl rfl rfl ndX6_in ⟨Nat.le_of_ble_eq_true rfl, Nat.le_of_ble_eq_true rfl⟩) fw_PS rfl rfl hl.1 rfl (lv_room (Nat.le_of_ble_eq_true rfl)) dX6_reckon_13 ⟨Nat.le_refl _, Nat.le_refl _⟩) ?_
      refine lv_if_eq (tgt := 48) hx hb dX6_reckon_16 (by decide) (fun c4 => ?_) (fun c4 => ?_)
      · refine lv_iconst (v := 0) hx hb dX6_reckon_48 (by decide) ?_
        exact J2 false ls ⟨lv_sub hl [0, 1, 2, 3, 4] rfl, by simp only [if_neg c3, if_pos c4] <;> first | assumption | contradiction⟩
      · refine lv_aload_n hx hb dX6_reckon_19 rfl (lv_at hl 0 rfl) ?_
        refine lv_iload_n hx hb dX6_reckon_20 rfl (lv_at hl 3 rfl) ?_
        refine lv_aload_n hx hb dX6_reckon_21 rfl (lv_at hl 0 rfl) ?_
        refine va_get (D := (dC, dI)) (ci := 3) (v := .int h0_format) (C := RX6) (T := TX6) (N := 7) hx hb htf hiX6 hown hK hP 0 rfl rfl 0 (by decide) (htf _ wk351) (fun _ h9 => h9) rfl dX6_reckon_22 ?_
        refine fw_call (va_runV (As := [.int p3, .int h0_format]) (rest := [.ref h0]) ⟨hx, hb, hml, hown, htf⟩ (k_X6_isFloat l dC dI h0 h0_format h0_code h0_minus h0_m h0_power h0_infinite h0_none p3 h0_format) (cwV 2 htf (gd_V wk379 wk380 ws7 wk3 wk381) rfl rfl rfl ndX6_isFloat ⟨Nat.le_of_ble_eq_true rfl, Nat.le_of_ble_eq_true rfl⟩) (fw_RV (va_recv hK hP (ci := 3) (q0 := 0) rfl rfl) (hP.sub (ws' := [(h0, .inr (3, [.int h0_format, .int h0_code, .int (jb h0_minus), .long h0_m, .int h0_power, .int (jb h0_infinite), .int (jb h0_none)]))]) [0] rfl) hK) rfl rfl hl.1 rfl (lv_room (Nat.le_of_ble_eq_true rfl)) dX6_reckon_25 ⟨Nat.le_refl _, Nat.le_refl _⟩) ?_
        refine lv_if_eq (tgt := 48) hx hb dX6_reckon_28 (by decide) (fun c5 => ?_) (fun c5 => ?_)
        · refine lv_iconst (v := 0) hx hb dX6_reckon_48 (by decide) ?_
          exact J2 false ls ⟨lv_sub hl [0, 1, 2, 3, 4] rfl, by simp only [if_neg c3, if_neg c4, if_pos c5] <;> first | assumption | contradiction⟩
        · refine lv_aload_n hx hb dX6_reckon_31 rfl (lv_at hl 0 rfl) ?_
          refine lv_iload hx hb dX6_reckon_32 (lv_at hl 4 rfl) ?_
          refine lv_aload_n hx hb dX6_reckon_34 rfl (lv_at hl 0 rfl) ?_
          refine va_get (D := (dC, dI)) (ci := 3) (v := .int h0_format) (C := RX6) (T := TX6) (N := 7) hx hb htf hiX6 hown hK hP 0 rfl rfl 0 (by decide) (htf _ wk351) (fun _ h9 => h9) rfl dX6_reckon_35 ?_
          refine fw_call (va_runV (As := [.int p4, .int h0_format]) (rest := [.ref h0]) ⟨hx, hb, hml, hown, htf⟩ (k_X6_isFloat l dC dI h0 h0_format h0_code h0_minus h0_m h0_power h0_infinite h0_none p4 h0_format) (cwV 2 htf (gd_V wk379 wk380 ws7 wk3 wk381) rfl rfl rfl ndX6_isFloat ⟨Nat.le_of_ble_eq_true rfl, Nat.le_of_ble_eq_true rfl⟩) (fw_RV (va_recv hK hP (ci := 3) (q0 := 0) rfl rfl) (hP.sub (ws' := [(h0, .inr (3, [.int h0_format, .int h0_code, .int (jb h0_minus), .long h0_m, .int h0_power, .int (jb h0_infinite), .int (jb h0_none)]))]) [0] rfl) hK) rfl rfl hl.1 rfl (lv_room (Nat.le_of_ble_eq_true rfl)) dX6_reckon_38 ⟨Nat.le_refl _, Nat.le_refl _⟩) ?_
          refine lv_if_eq (tgt := 48) hx hb dX6_reckon_41 (by decide) (fun c6 => ?_) (fun c6 => ?_)
          · refine lv_iconst (v := 0) hx hb dX6_reckon_48 (by decide) ?_
            exact J2 false ls ⟨lv_sub hl [0, 1, 2, 3, 4] rfl, by simp only [if_neg c3, if_neg c4, if_neg c5, if_pos c6] <;> first | assumption | contradiction⟩
          · refine lv_iconst (v := 1) hx hb dX6_reckon_44 (by decide) ?_
            refine lv_goto (tgt := 49) hx hb dX6_reckon_45 (by decide) ?_
            exact J2 true ls ⟨lv_sub hl [0, 1, 2, 3, 4] rfl, by simp only [if_neg c3, if_neg c4, if_neg c5, if_neg c6] <;> first | assumption | contradiction⟩
  rintro x1 ls ⟨hl, ex1⟩
  try dsimp only at hl ex1 ⊢
  have hT : fm_X6_reckon h0_format h0_code h0_minus h0_m h0_power h0_infinite h0_none p1 p2 p3 p4 = fm_X6_reckon_s1 h0_format h0_code h0_minus h0_m h0_power h0_infinite h0_none p1 p2 p3 p4 x1 := by rw [ex1]; exact hT
  refine fw_callM (va_runV (As := [.int (jb x1)]) (rest := []) ⟨hx, hb, hml, hown, htf⟩ (k_X6_good l dC dI h0 h0_format h0_code h0_minus h0_m h0_power h0_infinite h0_none x1) (cwV 1 htf (gd_V wk372 wk373 ws6 wk3 wk374) rfl rfl rfl ndX6_good ⟨Nat.le_of_ble_eq_true rfl, Nat.le_of_ble_eq_true rfl⟩) (fw_RV (va_recv hK hP (ci := 3) (q0 := 0) rfl rfl) hP hK) rfl rfl hl.1 rfl (lv_room (Nat.le_of_ble_eq_true rfl)) dX6_reckon_49 ⟨Nat.le_refl _, Nat.le_refl _⟩) hS rfl (fun H locs hP _ _ hS => ?_)
  have hT : fm_X6_reckon h0_format h0_code h0_minus h0_m h0_power h0_infinite h0_none p1 p2 p3 p4 = fm_X6_reckon_s2 h0_format h0_code h0_minus h0_m h0_power h0_infinite h0_none p1 p2 p3 p4 x1 (fm_X6_good h0_format h0_code h0_minus h0_m h0_power h0_infinite h0_none x1) := hT
  generalize ez7 : fm_X6_good h0_format h0_code h0_minus h0_m h0_power h0_infinite h0_none x1 = z7 at hP hT ⊢
  have hP : va_P (dC, dI) vwCl [(h0, .inr (3, [.int z7.2.1, .int z7.2.2.1, .int (jb z7.2.2.2.1), .long z7.2.2.2.2.1, .int z7.2.2.2.2.2.1, .int (jb z7.2.2.2.2.2.2.1), .int (jb z7.2.2.2.2.2.2.2)]))] H := hP
  have hD : va_D (fun q => q = h0) [(h0, .inr (3, [.int z7.2.1, .int z7.2.2.1, .int (jb z7.2.2.2.1), .long z7.2.2.2.2.1, .int z7.2.2.2.2.2.1, .int (jb z7.2.2.2.2.2.2.1), .int (jb z7.2.2.2.2.2.2.2)]))] := fw_D1 rfl
  refine W.eq (g2 := F0 m 52 ls [.int (jb z7.1)]) rfl ?_
  refine lv_if_ne (tgt := 57) hx hb dX6_reckon_52 (by decide) (fun c8 => ?_) (fun c8 => ?_)
  · have hT : fm_X6_reckon h0_format h0_code h0_minus h0_m h0_power h0_infinite h0_none p1 p2 p3 p4 = fm_X6_reckon_s4 h0_format h0_code h0_minus h0_m h0_power h0_infinite h0_none p1 p2 p3 p4 x1 z7 := hT.trans (if_neg c8)
    refine lv_aload_n hx hb dX6_reckon_57 rfl (lv_at hl 0 rfl) ?_
    refine lv_bipush (v := 46) hx hb dX6_reckon_58 (by decide) ?_
    refine lv_iload_n hx hb dX6_reckon_60 rfl (lv_at hl 1 rfl) ?_
    refine lv_iadd hx hb dX6_reckon_61 ?_
    refine lv_iload_n hx hb dX6_reckon_62 rfl (lv_at hl 2 rfl) ?_
    refine lv_iload_n hx hb dX6_reckon_63 rfl (lv_at hl 3 rfl) ?_
    refine lv_i2l (v := p3.toInt64) hx hb dX6_reckon_64 rfl ?_
    refine lv_iload hx hb dX6_reckon_65 (lv_at hl 4 rfl) ?_
    refine lv_i2l (v := p4.toInt64) hx hb dX6_reckon_67 rfl ?_
    refine lv_aload_n hx hb dX6_reckon_68 rfl (lv_at hl 0 rfl) ?_
    refine va_get (D := (dC, dI)) (ci := 3) (v := .int z7.2.1) (C := RX6) (T := TX6) (N := 7) hx hb htf hiX6 hown hK hP 0 rfl rfl 0 (by decide) (htf _ wk351) (fun _ h9 => h9) rfl dX6_reckon_69 ?_
    refine fw_callM (va_runV (As := [.int (46 + p1), .int p2, .long p3.toInt64, .long p4.toInt64, .int z7.2.1]) (rest := []) ⟨hx, hb, hml, hown, htf⟩ (k_X6_arithmetic l dC dI h0 z7.2.1 z7.2.2.1 z7.2.2.2.1 z7.2.2.2.2.1 z7.2.2.2.2.2.1 z7.2.2.2.2.2.2.1 z7.2.2.2.2.2.2.2 (46 + p1) p2 p3.toInt64 p4.toInt64 z7.2.1) (cwV 5 htf (gd_V wk394 wk395 ws8 wk3 wk396) rfl rfl rfl ndX6_arithmetic ⟨Nat.le_of_ble_eq_true rfl, Nat.le_of_ble_eq_true rfl⟩) (fw_RV (va_recv hK hP (ci := 3) (q0 := 0) rfl rfl) hP hK) rfl rfl hl.1 rfl (lv_room (Nat.le_of_ble_eq_true rfl)) dX6_reckon_72 ⟨Nat.le_refl _, Nat.le_refl _⟩) hS rfl (fun H locs hP _ _ hS => ?_)
    have hT : fm_X6_reckon h0_format h0_code h0_minus h0_m h0_power h0_infinite h0_none p1 p2 p3 p4 = fm_X6_reckon_s5 h0_format h0_code h0_minus h0_m h0_power h0_infinite h0_none p1 p2 p3 p4 x1 z7 (fm_X6_arithmetic z7.2.1 z7.2.2.1 z7.2.2.2.1 z7.2.2.2.2.1 z7.2.2.2.2.2.1 z7.2.2.2.2.2.2.1 z7.2.2.2.2.2.2.2 (46 + p1) p2 p3.toInt64 p4.toInt64 z7.2.1) := hT
    generalize ez9 : fm_X6_arithmetic z7.2.1 z7.2.2.1 z7.2.2.2.1 z7.2.2.2.2.1 z7.2.2.2.2.2.1 z7.2.2.2.2.2.2.1 z7.2.2.2.2.2.2.2 (46 + p1) p2 p3.toInt64 p4.toInt64 z7.2.1 = z9 at hP hT ⊢
    have hP : va_P (dC, dI) vwCl [(h0, .inr (3, [.int z9.2.1, .int z9.2.2.1, .int (jb z9.2.2.2.1), .long z9.2.2.2.2.1, .int z9.2.2.2.2.2.1, .int (jb z9.2.2.2.2.2.2.1), .int (jb z9.2.2.2.2.2.2.2)]))] H := hP
    have hD : va_D (fun q => q = h0) [(h0, .inr (3, [.int z9.2.1, .int z9.2.2.1, .int (jb z9.2.2.2.1), .long z9.2.2.2.2.1, .int z9.2.2.2.2.2.1, .int (jb z9.2.2.2.2.2.2.1), .int (jb z9.2.2.2.2.2.2.2)]))] := fw_D1 rfl
    refine W.eq (g2 := F0 m 75 ls [.long z9.1]) rfl ?_
    refine lv_l2i (v := z9.1.toInt32) hx hb dX6_reckon_75 rfl ?_
    have hEQ : fm_X6_reckon h0_format h0_code h0_minus h0_m h0_power h0_infinite h0_none p1 p2 p3 p4 = (z9.1.toInt32, z9.2.1, z9.2.2.1, z9.2.2.2.1, z9.2.2.2.2.1, z9.2.2.2.2.2.1, z9.2.2.2.2.2.2.1, z9.2.2.2.2.2.2.2) := hT
    exact W.iret (v := z9.1.toInt32) hx hb hr (fun t ht hW => ⟨by simp only [hEQ], by rw [ht]; simp only [hEQ, fw_sl]; exact hP, hS.F ht⟩) hS.2.2 dX6_reckon_76
  · have hT : fm_X6_reckon h0_format h0_code h0_minus h0_m h0_power h0_infinite h0_none p1 p2 p3 p4 = fm_X6_reckon_s3 h0_format h0_code h0_minus h0_m h0_power h0_infinite h0_none p1 p2 p3 p4 x1 z7 := hT.trans (if_pos c8)
    refine lv_iconst (v := 0) hx hb dX6_reckon_55 (by decide) ?_
    have hEQ : fm_X6_reckon h0_format h0_code h0_minus h0_m h0_power h0_infinite h0_none p1 p2 p3 p4 = (0, z7.2.1, z7.2.2.1, z7.2.2.2.1, z7.2.2.2.2.1, z7.2.2.2.2.2.1, z7.2.2.2.2.2.2.1, z7.2.2.2.2.2.2.2) := hT
    exact W.iret (v := 0) hx hb hr (fun t ht hW => ⟨by simp only [hEQ], by rw [ht]; simp only [hEQ, fw_sl]; exact hP, hS.F ht⟩) hS.2.2 dX6_reckon_56
