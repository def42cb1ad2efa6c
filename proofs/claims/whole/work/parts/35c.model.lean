theorem ndX6_from : yX6_from.cls = RX6 ∧ yX6_from.cls ≠ "java/lang/invoke/MethodHandle" ∧ yX6_from.cls ≠ "java/lang/invoke/VarHandle" ∧ (parseMethodDescriptor yX6_from.desc).map (fun d => d.parameters.length) = some 4 := by decide +kernel
def fm_X6_from_s3 (h0_format : Int32) (h0_code : Int32) (h0_minus : Bool) (h0_m : Int64) (h0_power : Int32) (h0_infinite : Bool) (h0_none : Bool) (p1 : Int32) (p2 : Int32) (p3 : Int32) (p4 : Int32) (x1 : Bool) (z6 : Bool × fw_S7) : Int32 × fw_S7 := (0, z6.2.1, z6.2.2.1, z6.2.2.2.1, z6.2.2.2.2.1, z6.2.2.2.2.2.1, z6.2.2.2.2.2.2.1, z6.2.2.2.2.2.2.2)
def fm_X6_from_s9 (h0_format : Int32) (h0_code : Int32) (h0_minus : Bool) (h0_m : Int64) (h0_power : Int32) (h0_infinite : Bool) (h0_none : Bool) (p1 : Int32) (p2 : Int32) (p3 : Int32) (p4 : Int32) (x1 : Bool) (z6 : Bool × fw_S7) (z8 : fw_S7) (x9 : Int32) (x10 : Int32) : Int32 × fw_S7 := ((fm_X6_nan x9 x10).toInt32, z8.1, z8.2.1, z8.2.2.1, z8.2.2.2.1, z8.2.2.2.2.1, z8.2.2.2.2.2.1, z8.2.2.2.2.2.2)
def fm_X6_from_s12 (h0_format : Int32) (h0_code : Int32) (h0_minus : Bool) (h0_m : Int64) (h0_power : Int32) (h0_infinite : Bool) (h0_none : Bool) (p1 : Int32) (p2 : Int32) (p3 : Int32) (p4 : Int32) (x1 : Bool) (z6 : Bool × fw_S7) (z8 : fw_S7) (x9 : Int32) (x10 : Int32) (x13 : Int64) : Int32 × fw_S7 := (((fc_shl (fm_X6_mask x9) (x10 - 1)) ||| x13).toInt32, z8.1, z8.2.1, z8.2.2.1, z8.2.2.2.1, z8.2.2.2.2.1, z8.2.2.2.2.2.1, z8.2.2.2.2.2.2)
def fm_X6_from_s11 (h0_format : Int32) (h0_code : Int32) (h0_minus : Bool) (h0_m : Int64) (h0_power : Int32) (h0_infinite : Bool) (h0_none : Bool) (p1 : Int32) (p2 : Int32) (p3 : Int32) (p4 : Int32) (x1 : Bool) (z6 : Bool × fw_S7) (z8 : fw_S7) (x9 : Int32) (x10 : Int32) : Int32 × fw_S7 := fm_X6_from_s12 h0_format h0_code h0_minus h0_m h0_power h0_infinite h0_none p1 p2 p3 p4 x1 z6 z8 x9 x10 (if (jb z8.2.2.1) = 0 then 0 else fc_shl 1 ((x9 + x10) - 1))
def fm_X6_from_s10 (h0_format : Int32) (h0_code : Int32) (h0_minus : Bool) (h0_m : Int64) (h0_power : Int32) (h0_infinite : Bool) (h0_none : Bool) (p1 : Int32) (p2 : Int32) (p3 : Int32) (p4 : Int32) (x1 : Bool) (z6 : Bool × fw_S7) (z8 : fw_S7) (x9 : Int32) (x10 : Int32) : Int32 × fw_S7 := ((fm_X6_round p3 z8.2.2.1 z8.2.2.2.1 z8.2.2.2.2.1 false z8.1).toInt32, z8.1, z8.2.1, z8.2.2.1, z8.2.2.2.1, z8.2.2.2.2.1, z8.2.2.2.2.2.1, z8.2.2.2.2.2.2)
def fm_X6_from_s8 (h0_format : Int32) (h0_code : Int32) (h0_minus : Bool) (h0_m : Int64) (h0_power : Int32) (h0_infinite : Bool) (h0_none : Bool) (p1 : Int32) (p2 : Int32) (p3 : Int32) (p4 : Int32) (x1 : Bool) (z6 : Bool × fw_S7) (z8 : fw_S7) (x9 : Int32) (x10 : Int32) : Int32 × fw_S7 := if (jb z8.2.2.2.2.2.1) = 0 then fm_X6_from_s10 h0_format h0_code h0_minus h0_m h0_power h0_infinite h0_none p1 p2 p3 p4 x1 z6 z8 x9 x10 else fm_X6_from_s11 h0_format h0_code h0_minus h0_m h0_power h0_infinite h0_none p1 p2 p3 p4 x1 z6 z8 x9 x10
def fm_X6_from_s7 (h0_format : Int32) (h0_code : Int32) (h0_minus : Bool) (h0_m : Int64) (h0_power : Int32) (h0_infinite : Bool) (h0_none : Bool) (p1 : Int32) (p2 : Int32) (p3 : Int32) (p4 : Int32) (x1 : Bool) (z6 : Bool × fw_S7) (z8 : fw_S7) (x9 : Int32) (x10 : Int32) : Int32 × fw_S7 := if (jb z8.2.2.2.2.2.2) = 0 then fm_X6_from_s8 h0_format h0_code h0_minus h0_m h0_power h0_infinite h0_none p1 p2 p3 p4 x1 z6 z8 x9 x10 else fm_X6_from_s9 h0_format h0_code h0_minus h0_m h0_power h0_infinite h0_none p1 p2 p3 p4 x1 z6 z8 x9 x10
def fm_X6_from_s6 (h0_format : Int32) (h0_code : Int32) (h0_minus : Bool) (h0_m : Int64) (h0_power : Int32) (h0_infinite : Bool) (h0_none : Bool) (p1 : Int32) (p2 : Int32) (p3 : Int32) (p4 : Int32) (x1 : Bool) (z6 : Bool × fw_S7) (z8 : fw_S7) (x9 : Int32) : Int32 × fw_S7 := fm_X6_from_s7 h0_format h0_code h0_minus h0_m h0_power h0_infinite h0_none p1 p2 p3 p4 x1 z6 z8 x9 (fm_X6_significand z8.1)
def fm_X6_from_s5 (h0_format : Int32) (h0_code : Int32) (h0_minus : Bool) (h0_m : Int64) (h0_power : Int32) (h0_infinite : Bool) (h0_none : Bool) (p1 : Int32) (p2 : Int32) (p3 : Int32) (p4 : Int32) (x1 : Bool) (z6 : Bool × fw_S7) (z8 : fw_S7) : Int32 × fw_S7 := fm_X6_from_s6 h0_format h0_code h0_minus h0_m h0_power h0_infinite h0_none p1 p2 p3 p4 x1 z6 z8 (fm_X6_exponent z8.1)
def fm_X6_from_s4 (h0_format : Int32) (h0_code : Int32) (h0_minus : Bool) (h0_m : Int64) (h0_power : Int32) (h0_infinite : Bool) (h0_none : Bool) (p1 : Int32) (p2 : Int32) (p3 : Int32) (p4 : Int32) (x1 : Bool) (z6 : Bool × fw_S7) : Int32 × fw_S7 := fm_X6_from_s5 h0_format h0_code h0_minus h0_m h0_power h0_infinite h0_none p1 p2 p3 p4 x1 z6 (fm_X6_take z6.2.1 z6.2.2.1 z6.2.2.2.1 z6.2.2.2.2.1 z6.2.2.2.2.2.1 z6.2.2.2.2.2.2.1 z6.2.2.2.2.2.2.2 p4.toInt64 ((1000 + (100 * p1)) + p2))
def fm_X6_from_s2 (h0_format : Int32) (h0_code : Int32) (h0_minus : Bool) (h0_m : Int64) (h0_power : Int32) (h0_infinite : Bool) (h0_none : Bool) (p1 : Int32) (p2 : Int32) (p3 : Int32) (p4 : Int32) (x1 : Bool) (z6 : Bool × fw_S7) : Int32 × fw_S7 := if (jb z6.1) = 0 then fm_X6_from_s3 h0_format h0_code h0_minus h0_m h0_power h0_infinite h0_none p1 p2 p3 p4 x1 z6 else fm_X6_from_s4 h0_format h0_code h0_minus h0_m h0_power h0_infinite h0_none p1 p2 p3 p4 x1 z6
def fm_X6_from_s1 (h0_format : Int32) (h0_code : Int32) (h0_minus : Bool) (h0_m : Int64) (h0_power : Int32) (h0_infinite : Bool) (h0_none : Bool) (p1 : Int32) (p2 : Int32) (p3 : Int32) (p4 : Int32) (x1 : Bool) : Int32 × fw_S7 := fm_X6_from_s2 h0_format h0_code h0_minus h0_m h0_power h0_infinite h0_none p1 p2 p3 p4 x1 (fm_X6_good h0_format h0_code h0_minus h0_m h0_power h0_infinite h0_none x1)
def fm_X6_from (h0_format : Int32) (h0_code : Int32) (h0_minus : Bool) (h0_m : Int64) (h0_power : Int32) (h0_infinite : Bool) (h0_none : Bool) (p1 : Int32) (p2 : Int32) (p3 : Int32) (p4 : Int32) : Int32 × fw_S7 := fm_X6_from_s1 h0_format h0_code h0_minus h0_m h0_power h0_infinite h0_none p1 p2 p3 p4 (if (jb (fm_X6_isFormat p1 p2)) = 0 then false else (if (jb (fm_X6_in p3 0 4)) = 0 then false else (if (jb (fm_X6_isFloat h0_format h0_code h0_minus h0_m h0_power h0_infinite h0_none p4 ((1000 + (100 * p1)) + p2))) = 0 then false else true)))
-- SIMP X6_from: fm_X6_from, fm_X6_from_s1, fm_X6_from_s2, fm_X6_from_s4, fm_X6_from_s5, fm_X6_from_s6, fm_X6_from_s7, fm_X6_from_s8, fm_X6_from_s10, fm_X6_from_s11, fm_X6_from_s12, fm_X6_from_s9, fm_X6_from_s3
set_option maxHeartbeats 4000000 in
set_option maxRecDepth 100000 in
theorem k_X6_from (l : Launch) (dC : Nat → ClassId) (dI : Nat → Nat → Nat) (h0 : Nat) (h0_format : Int32) (h0_code : Int32) (h0_minus : Bool) (h0_m : Int64) (h0_power : Int32) (h0_infinite : Bool) (h0_none : Bool) (p1 : Int32) (p2 : Int32) (p3 : Int32) (p4 : Int32) : Met l yX6_from wsX6_from { frames := 3, cells := 0, slots := 0, locals := 92 } (fw_R (dC, dI) vwCl [(h0, .inr (3, [.int h0_format, .int h0_code, .int (jb h0_minus), .long h0_m, .int h0_power, .int (jb h0_infinite), .int (jb h0_none)]))] [.ref h0, .int p1, .int p2, .int p3, .int p4]) (fw_M (dC, dI) vwCl h0 3 (fw_sl (fm_X6_from h0_format h0_code h0_minus h0_m h0_power h0_infinite h0_none p1 p2 p3 p4).2) (some (.int ((fm_X6_from h0_format h0_code h0_minus h0_m h0_power h0_infinite h0_none p1 p2 p3 p4).1)))) 0 0 (fun q => q = h0) := by
  refine Met.ofW (cc := cX6_from) (maxL := 7) (ret := (some .int)) (by decide) rfl ?_
  intro p e s m args below meth c s₁ B hml hv
  obtain ⟨rfl, hP, hK⟩ := hv
  have hx := B.exec
  have hb := B.bytes
  have hr := B.returns
  have hts := atoms_spec (ws := wsX6_from) B.pre
  have htf : ∀ w ∈ fc_all, w.before _ s = true := fun w h => hts w (List.mem_cons_of_mem _ h)
  have hown : s.vm.findClass RX6 = some m.cls := findClass_of_methodNamed B.named
  have hlocks := B.notSynchronized
  have hP : va_P (dC, dI) vwCl [(h0, .inr (3, [.int h0_format, .int h0_code, .int (jb h0_minus), .long h0_m, .int h0_power, .int (jb h0_infinite), .int (jb h0_none)]))] s.heap := hP
  have hD : va_D (fun q => q = h0) [(h0, .inr (3, [.int h0_format, .int h0_code, .int (jb h0_minus), .long h0_m, .int h0_power, .int (jb h0_infinite), .int (jb h0_none)]))] := fw_D1 rfl
  have hS : va_S (fun q => q = h0) s.heap s.heap [] := va_S.rf
  have hl := lv_entry ([.ref h0, .int p1, .int p2, .int p3, .int p4]) (n := 7) (Nat.le_of_ble_eq_true rfl)
  rw [lg_entry_eq]
  generalize (lg_sl ([.ref h0, .int p1, .int p2, .int p3, .int p4]) ++ List.replicate (7 - (lg_sl ([.ref h0, .int p1, .int p2, .int p3, .int p4])).length) Slot.unset).toArray = ls at hl ⊢
  have hl : lv_has ls 7 [(0, .ref h0), (1, .int p1), (2, .int p2), (3, .int p3), (4, .int p4)] := hl
  have hT : fm_X6_from h0_format h0_code h0_minus h0_m h0_power h0_infinite h0_none p1 p2 p3 p4 = fm_X6_from h0_format h0_code h0_minus h0_m h0_power h0_infinite h0_none p1 p2 p3 p4 := rfl
  refine lv_aload_n hx hb dX6_from_0 rfl (lv_at hl 0 rfl) ?_
  refine lv_iload_n hx hb dX6_from_1 rfl (lv_at hl 1 rfl) ?_
  refine lv_iload_n hx hb dX6_from_2 rfl (lv_at hl 2 rfl) ?_
  refine fw_call (va_runS (As := [.int p1, .int p2]) (rest := [.ref h0]) ⟨hx, hb, hml, hown, htf⟩ (k_X6_isFormat l p1 p2) (va_cwS 2 htf (gd_S wk366 wk367 wk3 wk368) rfl rfl rfl ndX6_isFormat ⟨Nat.le_of_ble_eq_true rfl, Nat.le_of_ble_eq_true rfl⟩) fw_PS rfl rfl hl.1 rfl (lv_room (Nat.le_of_ble_eq_true rfl)) dX6_from_3 ⟨Nat.le_refl _, Nat.le_refl _⟩) ?_
  refine fw_join (j := 42) (ι := Bool) (LS := fun i ls => lv_has ls 7 [(0, .ref h0), (1, .int p1), (2, .int p2), (3, .int p3), (4, .int p4)] ∧ i = (if (jb (fm_X6_isFormat p1 p2)) = 0 then false else (if (jb (fm_X6_in p3 0 4)) = 0 then false else (if (jb (fm_X6_isFloat h0_format h0_code h0_minus h0_m h0_power h0_infinite h0_none p4 ((1000 + (100 * p1)) + p2))) = 0 then false else true)))) (ST := fun i => [.int (jb i), .ref h0]) ?_ (fun J2 => ?_)
  rotate_left
  · refine lv_if_eq (tgt := 41) hx hb dX6_from_6 (by decide) (fun c3 => ?_) (fun c3 => ?_)
    · refine lv_iconst (v := 0) hx hb dX6_from_41 (by decide) ?_
      exact J2 false ls ⟨lv_sub hl [0, 1, 2, 3, 4] rfl, by simp only [if_pos c3] <;> first | assumption | contradiction⟩
    · refine lv_iload_n hx hb dX6_from_9 rfl (lv_at hl 3 rfl) ?_
      refine lv_iconst (v := 0) hx hb dX6_from_10 (by decide) ?_
      refine lv_iconst (v := 4) hx hb dX6_from_11 (by decide) ?_
      refine fw_call (va_runS (As := [.int p3, .int 0, .int 4]) (rest := [.ref h0]) ⟨hx, hb, hml, hown, htf⟩ (k_X6_in l p3 0 4) (va_cwS 3 htf (gd_S wk369 wk370 wk3 wk371) rfl rfl rfl ndX6_in ⟨Nat.le_of_ble_eq_true rfl, Nat.le_of_ble_eq_true rfl⟩) fw_PS rfl rfl hl.1 rfl (lv_room (Nat.le_of_ble_eq_true rfl)) dX6_from_12 ⟨Nat.le_refl _, Nat.le_refl _⟩) ?_
      refine lv_if_eq (tgt := 41) hx hb dX6_from_15 (by decide) (fun c4 => ?_) (fun c4 => ?_)
      · refine lv_iconst (v := 0) hx hb dX6_from_41 (by decide) ?_
        exact J2 false ls ⟨lv_sub hl [0, 1, 2, 3, 4] rfl, by simp only [if_neg c3, if_pos c4] <;> first | assumption | contradiction⟩
      · refine lv_aload_n hx hb dX6_from_18 rfl (lv_at hl 0 rfl) ?_
        refine lv_iload hx hb dX6_from_19 (lv_at hl 4 rfl) ?_
        refine lv_sipush (v := 1000) hx hb dX6_from_21 (by decide) ?_
        refine lv_bipush (v := 100) hx hb dX6_from_24 (by decide) ?_
        refine lv_iload_n hx hb dX6_from_26 rfl (lv_at hl 1 rfl) ?_
        refine lv_imul hx hb dX6_from_27 ?_
        refine lv_iadd hx hb dX6_from_28 ?_
        refine lv_iload_n hx hb dX6_from_29 rfl (lv_at hl 2 rfl) ?_
        refine lv_iadd hx hb dX6_from_30 ?_
        refine fw_call (va_runV (As := [.int p4, .int ((1000 + (100 * p1)) + p2)]) (rest := [.ref h0]) ⟨hx, hb, hml, hown, htf⟩ (k_X6_isFloat l dC dI h0 h0_format h0_code h0_minus h0_m h0_power h0_infinite h0_none p4 ((1000 + (100 * p1)) + p2)) (cwV 2 htf (gd_V wk379 wk380 ws7 wk3 wk381) rfl rfl rfl ndX6_isFloat ⟨Nat.le_of_ble_eq_true rfl, Nat.le_of_ble_eq_true rfl⟩) (fw_RV (va_recv hK hP (ci := 3) (q0 := 0) rfl rfl) (hP.sub (ws' := [(h0, .inr (3, [.int h0_format, .int h0_code, .int (jb h0_minus), .long h0_m, .int h0_power, .int (jb h0_infinite), .int (jb h0_none)]))]) [0] rfl) hK) rfl rfl hl.1 rfl (lv_room (Nat.le_of_ble_eq_true rfl)) dX6_from_31 ⟨Nat.le_refl _, Nat.le_refl _⟩) ?_
        refine lv_if_eq (tgt := 41) hx hb dX6_from_34 (by decide) (fun c5 => ?_) (fun c5 => ?_)
        · refine lv_iconst (v := 0) hx hb dX6_from_41 (by decide) ?_
          exact J2 false ls ⟨lv_sub hl [0, 1, 2, 3, 4] rfl, by simp only [if_neg c3, if_neg c4, if_pos c5] <;> first | assumption | contradiction⟩
        · refine lv_iconst (v := 1) hx hb dX6_from_37 (by decide) ?_
          refine lv_goto (tgt := 42) hx hb dX6_from_38 (by decide) ?_
          exact J2 true ls ⟨lv_sub hl [0, 1, 2, 3, 4] rfl, by simp only [if_neg c3, if_neg c4, if_neg c5] <;> first | assumption | contradiction⟩
  rintro x1 ls ⟨hl, ex1⟩
  try dsimp only at hl ex1 ⊢
  have hT : fm_X6_from h0_format h0_code h0_minus h0_m h0_power h0_infinite h0_none p1 p2 p3 p4 = fm_X6_from_s1 h0_format h0_code h0_minus h0_m h0_power h0_infinite h0_none p1 p2 p3 p4 x1 := by rw [ex1]; exact hT
  refine fw_callM (va_runV (As := [.int (jb x1)]) (rest := []) ⟨hx, hb, hml, hown, htf⟩ (k_X6_good l dC dI h0 h0_format h0_code h0_minus h0_m h0_power h0_infinite h0_none x1) (cwV 1 htf (gd_V wk372 wk373 ws6 wk3 wk374) rfl rfl rfl ndX6_good ⟨Nat.le_of_ble_eq_true rfl, Nat.le_of_ble_eq_true rfl⟩) (fw_RV (va_recv hK hP (ci := 3) (q0 := 0) rfl rfl) hP hK) rfl rfl hl.1 rfl (lv_room (Nat.le_of_ble_eq_true rfl)) dX6_from_42 ⟨Nat.le_refl _, Nat.le_refl _⟩) hS rfl (fun H locs hP _ _ hS => ?_)
  have hT : fm_X6_from h0_format h0_code h0_minus h0_m h0_power h0_infinite h0_none p1 p2 p3 p4 = fm_X6_from_s2 h0_format h0_code h0_minus h0_m h0_power h0_infinite h0_none p1 p2 p3 p4 x1 (fm_X6_good h0_format h0_code h0_minus h0_m h0_power h0_infinite h0_none x1) := hT
  generalize ez6 : fm_X6_good h0_format h0_code h0_minus h0_m h0_power h0_infinite h0_none x1 = z6 at hP hT ⊢
  have hP : va_P (dC, dI) vwCl [(h0, .inr (3, [.int z6.2.1, .int z6.2.2.1, .int (jb z6.2.2.2.1), .long z6.2.2.2.2.1, .int z6.2.2.2.2.2.1, .int (jb z6.2.2.2.2.2.2.1), .int (jb z6.2.2.2.2.2.2.2)]))] H := hP
  have hD : va_D (fun q => q = h0) [(h0, .inr (3, [.int z6.2.1, .int z6.2.2.1, .int (jb z6.2.2.2.1), .long z6.2.2.2.2.1, .int z6.2.2.2.2.2.1, .int (jb z6.2.2.2.2.2.2.1), .int (jb z6.2.2.2.2.2.2.2)]))] := fw_D1 rfl
  refine W.eq (g2 := F0 m 45 ls [.int (jb z6.1)]) rfl ?_
  refine lv_if_ne (tgt := 50) hx hb dX6_from_45 (by decide) (fun c7 => ?_) (fun c7 => ?_)
  · have hT : fm_X6_from h0_format h0_code h0_minus h0_m h0_power h0_infinite h0_none p1 p2 p3 p4 = fm_X6_from_s4 h0_format h0_code h0_minus h0_m h0_power h0_infinite h0_none p1 p2 p3 p4 x1 z6 := hT.trans (if_neg c7)
    refine lv_aload_n hx hb dX6_from_50 rfl (lv_at hl 0 rfl) ?_
    refine lv_iload hx hb dX6_from_51 (lv_at hl 4 rfl) ?_
    refine lv_i2l (v := p4.toInt64) hx hb dX6_from_53 rfl ?_
    refine lv_sipush (v := 1000) hx hb dX6_from_54 (by decide) ?_
    refine lv_bipush (v := 100) hx hb dX6_from_57 (by decide) ?_
    refine lv_iload_n hx hb dX6_from_59 rfl (lv_at hl 1 rfl) ?_
    refine lv_imul hx hb dX6_from_60 ?_
    refine lv_iadd hx hb dX6_from_61 ?_
    refine lv_iload_n hx hb dX6_from_62 rfl (lv_at hl 2 rfl) ?_
    refine lv_iadd hx hb dX6_from_63 ?_
    refine fw_callM (va_runV (As := [.long p4.toInt64, .int ((1000 + (100 * p1)) + p2)]) (rest := []) ⟨hx, hb, hml, hown, htf⟩ (k_X6_take l dC dI h0 z6.2.1 z6.2.2.1 z6.2.2.2.1 z6.2.2.2.2.1 z6.2.2.2.2.2.1 z6.2.2.2.2.2.2.1 z6.2.2.2.2.2.2.2 p4.toInt64 ((1000 + (100 * p1)) + p2)) (cwV 2 htf (gd_V wk400 wk401 ws9 wk3 wk402) rfl rfl rfl ndX6_take ⟨Nat.le_of_ble_eq_true rfl, Nat.le_of_ble_eq_true rfl⟩) (fw_RV (va_recv hK hP (ci := 3) (q0 := 0) rfl rfl) hP hK) rfl rfl hl.1 rfl (lv_room (Nat.le_of_ble_eq_true rfl)) dX6_from_64 ⟨Nat.le_refl _, Nat.le_refl _⟩) hS rfl (fun H locs hP _ _ hS => ?_)
    have hT : fm_X6_from h0_format h0_code h0_minus h0_m h0_power h0_infinite h0_none p1 p2 p3 p4 = fm_X6_from_s5 h0_format h0_code h0_minus h0_m h0_power h0_infinite h0_none p1 p2 p3 p4 x1 z6 (fm_X6_take z6.2.1 z6.2.2.1 z6.2.2.2.1 z6.2.2.2.2.1 z6.2.2.2.2.2.1 z6.2.2.2.2.2.2.1 z6.2.2.2.2.2.2.2 p4.toInt64 ((1000 + (100 * p1)) + p2)) := hT
    generalize ez8 : fm_X6_take z6.2.1 z6.2.2.1 z6.2.2.2.1 z6.2.2.2.2.1 z6.2.2.2.2.2.1 z6.2.2.2.2.2.2.1 z6.2.2.2.2.2.2.2 p4.toInt64 ((1000 + (100 * p1)) + p2) = z8 at hP hT ⊢
    have hP : va_P (dC, dI) vwCl [(h0, .inr (3, [.int z8.1, .int z8.2.1, .int (jb z8.2.2.1), .long z8.2.2.2.1, .int z8.2.2.2.2.1, .int (jb z8.2.2.2.2.2.1), .int (jb z8.2.2.2.2.2.2)]))] H := hP
    have hD : va_D (fun q => q = h0) [(h0, .inr (3, [.int z8.1, .int z8.2.1, .int (jb z8.2.2.1), .long z8.2.2.2.1, .int z8.2.2.2.2.1, .int (jb z8.2.2.2.2.2.1), .int (jb z8.2.2.2.2.2.2)]))] := fw_D1 rfl
    refine W.eq (g2 := F0 m 67 ls []) rfl ?_
    refine lv_aload_n hx hb dX6_from_67 rfl (lv_at hl 0 rfl) ?_
    refine va_get (D := (dC, dI)) (ci := 3) (v := .int z8.1) (C := RX6) (T := TX6) (N := 7) hx hb htf hiX6 hown hK hP 0 rfl rfl 0 (by decide) (htf _ wk351) (fun _ h9 => h9) rfl dX6_from_68 ?_
    refine fw_call (va_runS (As := [.int z8.1]) (rest := []) ⟨hx, hb, hml, hown, htf⟩ (k_X6_exponent l z8.1) (va_cwS 1 htf (gd_S wk385 wk386 wk3 wk387) rfl rfl rfl ndX6_exponent ⟨Nat.le_of_ble_eq_true rfl, Nat.le_of_ble_eq_true rfl⟩) fw_PS rfl rfl hl.1 rfl (lv_room (Nat.le_of_ble_eq_true rfl)) dX6_from_71 ⟨Nat.le_refl _, Nat.le_refl _⟩) ?_
    refine lv_topi (fun x9 ex9 => ?_)
    have hT : fm_X6_from h0_format h0_code h0_minus h0_m h0_power h0_infinite h0_none p1 p2 p3 p4 = fm_X6_from_s6 h0_format h0_code h0_minus h0_m h0_power h0_infinite h0_none p1 p2 p3 p4 x1 z6 z8 x9 := by rw [ex9]; exact hT
    refine lv_istore (lv' := [(5, .int x9), (0, .ref h0), (1, .int p1), (2, .int p2), (3, .int p3), (4, .int p4)]) hx hb dX6_from_74 hl (by decide) rfl (fun ls hl => ?_)
    refine lv_aload_n hx hb dX6_from_76 rfl (lv_at hl 1 rfl) ?_
    refine va_get (D := (dC, dI)) (ci := 3) (v := .int z8.1) (C := RX6) (T := TX6) (N := 7) hx hb htf hiX6 hown hK hP 0 rfl rfl 0 (by decide) (htf _ wk351) (fun _ h9 => h9) rfl dX6_from_77 ?_
    refine fw_call (va_runS (As := [.int z8.1]) (rest := []) ⟨hx, hb, hml, hown, htf⟩ (k_X6_significand l z8.1) (va_cwS 1 htf (gd_S wk388 wk389 wk3 wk390) rfl rfl rfl ndX6_significand ⟨Nat.le_of_ble_eq_true rfl, Nat.le_of_ble_eq_true rfl⟩) fw_PS rfl rfl hl.1 rfl (lv_room (Nat.le_of_ble_eq_true rfl)) dX6_from_80 ⟨Nat.le_refl _, Nat.le_refl _⟩) ?_
    refine lv_topi (fun x10 ex10 => ?_)
    have hT : fm_X6_from h0_format h0_code h0_minus h0_m h0_power h0_infinite h0_none p1 p2 p3 p4 = fm_X6_from_s7 h0_format h0_code h0_minus h0_m h0_power h0_infinite h0_none p1 p2 p3 p4 x1 z6 z8 x9 x10 := by rw [ex10]; exact hT
    refine lv_istore (lv' := [(6, .int x10), (5, .int x9), (0, .ref h0), (1, .int p1), (2, .int p2), (3, .int p3), (4, .int p4)]) hx hb dX6_from_83 hl (by decide) rfl (fun ls hl => ?_)
    refine lv_aload_n hx hb dX6_from_85 rfl (lv_at hl 2 rfl) ?_
    refine va_get (D := (dC, dI)) (ci := 3) (v := .int (jb z8.2.2.2.2.2.2)) (C := RX6) (T := TX6) (N := 7) hx hb htf hiX6 hown hK hP 0 rfl rfl 6 (by decide) (htf _ wk357) (fun _ h9 => h9) rfl dX6_from_86 ?_
    refine lv_if_eq (tgt := 101) hx hb dX6_from_89 (by decide) (fun c11 => ?_) (fun c11 => ?_)
    · have hT : fm_X6_from h0_format h0_code h0_minus h0_m h0_power h0_infinite h0_none p1 p2 p3 p4 = fm_X6_from_s8 h0_format h0_code h0_minus h0_m h0_power h0_infinite h0_none p1 p2 p3 p4 x1 z6 z8 x9 x10 := hT.trans (if_pos c11)
      refine lv_aload_n hx hb dX6_from_101 rfl (lv_at hl 2 rfl) ?_
      refine va_get (D := (dC, dI)) (ci := 3) (v := .int (jb z8.2.2.2.2.2.1)) (C := RX6) (T := TX6) (N := 7) hx hb htf hiX6 hown hK hP 0 rfl rfl 5 (by decide) (htf _ wk356) (fun _ h9 => h9) rfl dX6_from_102 ?_
      refine lv_if_eq (tgt := 141) hx hb dX6_from_105 (by decide) (fun c12 => ?_) (fun c12 => ?_)
      · have hT : fm_X6_from h0_format h0_code h0_minus h0_m h0_power h0_infinite h0_none p1 p2 p3 p4 = fm_X6_from_s10 h0_format h0_code h0_minus h0_m h0_power h0_infinite h0_none p1 p2 p3 p4 x1 z6 z8 x9 x10 := hT.trans (if_pos c12)
        refine lv_iload_n hx hb dX6_from_141 rfl (lv_at hl 5 rfl) ?_
        refine lv_aload_n hx hb dX6_from_142 rfl (lv_at hl 2 rfl) ?_
        refine va_get (D := (dC, dI)) (ci := 3) (v := .int (jb z8.2.2.1)) (C := RX6) (T := TX6) (N := 7) hx hb htf hiX6 hown hK hP 0 rfl rfl 2 (by decide) (htf _ wk353) (fun _ h9 => h9) rfl dX6_from_143 ?_
        refine lv_aload_n hx hb dX6_from_146 rfl (lv_at hl 2 rfl) ?_
        refine va_get (D := (dC, dI)) (ci := 3) (v := .long z8.2.2.2.1) (C := RX6) (T := TX6) (N := 7) hx hb htf hiX6 hown hK hP 0 rfl rfl 3 (by decide) (htf _ wk354) (fun _ h9 => h9) rfl dX6_from_147 ?_
        refine lv_aload_n hx hb dX6_from_150 rfl (lv_at hl 2 rfl) ?_
        refine va_get (D := (dC, dI)) (ci := 3) (v := .int z8.2.2.2.2.1) (C := RX6) (T := TX6) (N := 7) hx hb htf hiX6 hown hK hP 0 rfl rfl 4 (by decide) (htf _ wk355) (fun _ h9 => h9) rfl dX6_from_151 ?_
        refine lv_iconst (v := 0) hx hb dX6_from_154 (by decide) ?_
        refine lv_aload_n hx hb dX6_from_155 rfl (lv_at hl 2 rfl) ?_
        refine va_get (D := (dC, dI)) (ci := 3) (v := .int z8.1) (C := RX6) (T := TX6) (N := 7) hx hb htf hiX6 hown hK hP 0 rfl rfl 0 (by decide) (htf _ wk351) (fun _ h9 => h9) rfl dX6_from_156 ?_
        refine fw_call (va_runS (As := [.int p3, .int (jb z8.2.2.1), .long z8.2.2.2.1, .int z8.2.2.2.2.1, .int (jb false), .int z8.1]) (rest := []) ⟨hx, hb, hml, hown, htf⟩ (k_X6_round l p3 z8.2.2.1 z8.2.2.2.1 z8.2.2.2.2.1 false z8.1) (va_cwS 6 htf (gd_S wk403 wk404 wk3 wk405) rfl rfl rfl ndX6_round ⟨Nat.le_of_ble_eq_true rfl, Nat.le_of_ble_eq_true rfl⟩) fw_PS rfl rfl hl.1 rfl (lv_room (Nat.le_of_ble_eq_true rfl)) dX6_from_159 ⟨Nat.le_refl _, Nat.le_refl _⟩) ?_
        refine lv_l2i (v := (fm_X6_round p3 z8.2.2.1 z8.2.2.2.1 z8.2.2.2.2.1 false z8.1).toInt32) hx hb dX6_from_162 rfl ?_
        have hEQ : fm_X6_from h0_format h0_code h0_minus h0_m h0_power h0_infinite h0_none p1 p2 p3 p4 = ((fm_X6_round p3 z8.2.2.1 z8.2.2.2.1 z8.2.2.2.2.1 false z8.1).toInt32, z8.1, z8.2.1, z8.2.2.1, z8.2.2.2.1, z8.2.2.2.2.1, z8.2.2.2.2.2.1, z8.2.2.2.2.2.2) := hT
        exact W.iret (v := (fm_X6_round p3 z8.2.2.1 z8.2.2.2.1 z8.2.2.2.2.1 false z8.1).toInt32) hx hb hr (fun t ht hW => ⟨by simp only [hEQ], by rw [ht]; simp only [hEQ, fw_sl]; exact hP, hS.F ht⟩) hS.2.2 dX6_from_163
      · have hT : fm_X6_from h0_format h0_code h0_minus h0_m h0_power h0_infinite h0_none p1 p2 p3 p4 = fm_X6_from_s11 h0_format h0_code h0_minus h0_m h0_power h0_infinite h0_none p1 p2 p3 p4 x1 z6 z8 x9 x10 := hT.trans (if_neg c12)
        refine lv_iload hx hb dX6_from_108 (lv_at hl 1 rfl) ?_
        refine fw_call (va_runS (As := [.int x9]) (rest := []) ⟨hx, hb, hml, hown, htf⟩ (k_X6_mask l x9) (va_cwS 1 htf (gd_S wk391 wk392 wk3 wk393) rfl rfl rfl ndX6_mask ⟨Nat.le_of_ble_eq_true rfl, Nat.le_of_ble_eq_true rfl⟩) fw_PS rfl rfl hl.1 rfl (lv_room (Nat.le_of_ble_eq_true rfl)) dX6_from_110 ⟨Nat.le_refl _, Nat.le_refl _⟩) ?_
        refine lv_iload hx hb dX6_from_113 (lv_at hl 0 rfl) ?_
        refine lv_iconst (v := 1) hx hb dX6_from_115 (by decide) ?_
        refine lv_isub hx hb dX6_from_116 ?_
        refine lv_lshl (v := fc_shl (fm_X6_mask x9) (x10 - 1)) hx hb dX6_from_117 rfl ?_
        refine lv_aload_n hx hb dX6_from_118 rfl (lv_at hl 2 rfl) ?_
        refine va_get (D := (dC, dI)) (ci := 3) (v := .int (jb z8.2.2.1)) (C := RX6) (T := TX6) (N := 7) hx hb htf hiX6 hown hK hP 0 rfl rfl 2 (by decide) (htf _ wk353) (fun _ h9 => h9) rfl dX6_from_119 ?_
        refine fw_join (j := 138) (ι := Int64) (LS := fun i ls => lv_has ls 7 [(6, .int x10), (5, .int x9), (0, .ref h0), (1, .int p1), (2, .int p2), (3, .int p3), (4, .int p4)] ∧ i = (if (jb z8.2.2.1) = 0 then 0 else fc_shl 1 ((x9 + x10) - 1))) (ST := fun i => [.long i, .long (fc_shl (fm_X6_mask x9) (x10 - 1))]) ?_ (fun J14 => ?_)
        rotate_left
        · refine lv_if_eq (tgt := 137) hx hb dX6_from_122 (by decide) (fun c15 => ?_) (fun c15 => ?_)
          · refine lv_lconst (v := 0) hx hb dX6_from_137 (by decide) ?_
            exact J14 0 ls ⟨lv_sub hl [0, 1, 2, 3, 4, 5, 6] rfl, by simp only [if_pos c15] <;> first | assumption | contradiction⟩
          · refine lv_lconst (v := 1) hx hb dX6_from_125 (by decide) ?_
            refine lv_iload hx hb dX6_from_126 (lv_at hl 1 rfl) ?_
            refine lv_iload hx hb dX6_from_128 (lv_at hl 0 rfl) ?_
            refine lv_iadd hx hb dX6_from_130 ?_
            refine lv_iconst (v := 1) hx hb dX6_from_131 (by decide) ?_
            refine lv_isub hx hb dX6_from_132 ?_
            refine lv_lshl (v := fc_shl 1 ((x9 + x10) - 1)) hx hb dX6_from_133 rfl ?_
            refine lv_goto (tgt := 138) hx hb dX6_from_134 (by decide) ?_
            exact J14 (fc_shl 1 ((x9 + x10) - 1)) ls ⟨lv_sub hl [0, 1, 2, 3, 4, 5, 6] rfl, by simp only [if_neg c15] <;> first | assumption | contradiction⟩
        rintro x13 ls ⟨hl, ex13⟩
        try dsimp only at hl ex13 ⊢
        have hT : fm_X6_from h0_format h0_code h0_minus h0_m h0_power h0_infinite h0_none p1 p2 p3 p4 = fm_X6_from_s12 h0_format h0_code h0_minus h0_m h0_power h0_infinite h0_none p1 p2 p3 p4 x1 z6 z8 x9 x10 x13 := by rw [ex13]; exact hT
        refine lv_lor hx hb dX6_from_138 ?_
        refine lv_l2i (v := ((fc_shl (fm_X6_mask x9) (x10 - 1)) ||| x13).toInt32) hx hb dX6_from_139 rfl ?_
        have hEQ : fm_X6_from h0_format h0_code h0_minus h0_m h0_power h0_infinite h0_none p1 p2 p3 p4 = (((fc_shl (fm_X6_mask x9) (x10 - 1)) ||| x13).toInt32, z8.1, z8.2.1, z8.2.2.1, z8.2.2.2.1, z8.2.2.2.2.1, z8.2.2.2.2.2.1, z8.2.2.2.2.2.2) := hT
        exact W.iret (v := ((fc_shl (fm_X6_mask x9) (x10 - 1)) ||| x13).toInt32) hx hb hr (fun t ht hW => ⟨by simp only [hEQ], by rw [ht]; simp only [hEQ, fw_sl]; exact hP, hS.F ht⟩) hS.2.2 dX6_from_140
    · have hT : fm_X6_from h0_format h0_code h0_minus h0_m h0_power h0_infinite h0_none p1 p2 p3 p4 = fm_X6_from_s9 h0_format h0_code h0_minus h0_m h0_power h0_infinite h0_none p1 p2 p3 p4 x1 z6 z8 x9 x10 := hT.trans (if_neg c11)
      refine lv_iload hx hb dX6_from_92 (lv_at hl 1 rfl) ?_
      refine lv_iload hx hb dX6_from_94 (lv_at hl 0 rfl) ?_
      refine fw_call (va_runS (As := [.int x9, .int x10]) (rest := []) ⟨hx, hb, hml, hown, htf⟩ (k_X6_nan l x9 x10) (va_cwS 2 htf (gd_S wk397 wk398 wk3 wk399) rfl rfl rfl ndX6_nan ⟨Nat.le_of_ble_eq_true rfl, Nat.le_of_ble_eq_true rfl⟩) fw_PS rfl rfl hl.1 rfl (lv_room (Nat.le_of_ble_eq_true rfl)) dX6_from_96 ⟨Nat.le_refl _, Nat.le_refl _⟩) ?_
      refine lv_l2i (v := (fm_X6_nan x9 x10).toInt32) hx hb dX6_from_99 rfl ?_
      have hEQ : fm_X6_from h0_format h0_code h0_minus h0_m h0_power h0_infinite h0_none p1 p2 p3 p4 = ((fm_X6_nan x9 x10).toInt32, z8.1, z8.2.1, z8.2.2.1, z8.2.2.2.1, z8.2.2.2.2.1, z8.2.2.2.2.2.1, z8.2.2.2.2.2.2) := hT
      exact W.iret (v := (fm_X6_nan x9 x10).toInt32) hx hb hr (fun t ht hW => ⟨by simp only [hEQ], by rw [ht]; simp only [hEQ, fw_sl]; exact hP, hS.F ht⟩) hS.2.2 dX6_from_100
  · have hT : fm_X6_from h0_format h0_code h0_minus h0_m h0_power h0_infinite h0_none p1 p2 p3 p4 = fm_X6_from_s3 h0_format h0_code h0_minus h0_m h0_power h0_infinite h0_none p1 p2 p3 p4 x1 z6 := hT.trans (if_pos c7)
    refine lv_iconst (v := 0) hx hb dX6_from_48 (by decide) ?_
    have hEQ : fm_X6_from h0_format h0_code h0_minus h0_m h0_power h0_infinite h0_none p1 p2 p3 p4 = (0, z6.2.1, z6.2.2.1, z6.2.2.2.1, z6.2.2.2.2.1, z6.2.2.2.2.2.1, z6.2.2.2.2.2.2.1, z6.2.2.2.2.2.2.2) := hT
    exact W.iret (v := 0) hx hb hr (fun t ht hW => ⟨by simp only [hEQ], by rw [ht]; simp only [hEQ, fw_sl]; exact hP, hS.F ht⟩) hS.2.2 dX6_from_49
