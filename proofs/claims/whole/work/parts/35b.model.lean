theorem ndX6_is : yX6_is.cls = RX6 ∧ yX6_is.cls ≠ "java/lang/invoke/MethodHandle" ∧ yX6_is.cls ≠ "java/lang/invoke/VarHandle" ∧ (parseMethodDescriptor yX6_is.desc).map (fun d => d.parameters.length) = some 2 := by decide +kernel
def fm_X6_is_s3 (h0_format : Int32) (h0_code : Int32) (h0_minus : Bool) (h0_m : Int64) (h0_power : Int32) (h0_infinite : Bool) (h0_none : Bool) (p1 : Int32) (p2 : Int32) (x1 : Bool) (z5 : Bool × fw_S7) : Bool × fw_S7 := (false, z5.2.1, z5.2.2.1, z5.2.2.2.1, z5.2.2.2.2.1, z5.2.2.2.2.2.1, z5.2.2.2.2.2.2.1, z5.2.2.2.2.2.2.2)
def fm_X6_is_s6 (h0_format : Int32) (h0_code : Int32) (h0_minus : Bool) (h0_m : Int64) (h0_power : Int32) (h0_infinite : Bool) (h0_none : Bool) (p1 : Int32) (p2 : Int32) (x1 : Bool) (z5 : Bool × fw_S7) (z7 : Int64 × fw_S7) : Bool × fw_S7 := (true, z7.2.1, z7.2.2.1, z7.2.2.2.1, z7.2.2.2.2.1, z7.2.2.2.2.2.1, z7.2.2.2.2.2.2.1, z7.2.2.2.2.2.2.2)
def fm_X6_is_s7 (h0_format : Int32) (h0_code : Int32) (h0_minus : Bool) (h0_m : Int64) (h0_power : Int32) (h0_infinite : Bool) (h0_none : Bool) (p1 : Int32) (p2 : Int32) (x1 : Bool) (z5 : Bool × fw_S7) (z7 : Int64 × fw_S7) : Bool × fw_S7 := (false, z7.2.1, z7.2.2.1, z7.2.2.2.1, z7.2.2.2.2.1, z7.2.2.2.2.2.1, z7.2.2.2.2.2.2.1, z7.2.2.2.2.2.2.2)
def fm_X6_is_s5 (h0_format : Int32) (h0_code : Int32) (h0_minus : Bool) (h0_m : Int64) (h0_power : Int32) (h0_infinite : Bool) (h0_none : Bool) (p1 : Int32) (p2 : Int32) (x1 : Bool) (z5 : Bool × fw_S7) (z7 : Int64 × fw_S7) : Bool × fw_S7 := if (lg_cmp z7.1 1) = 0 then fm_X6_is_s6 h0_format h0_code h0_minus h0_m h0_power h0_infinite h0_none p1 p2 x1 z5 z7 else fm_X6_is_s7 h0_format h0_code h0_minus h0_m h0_power h0_infinite h0_none p1 p2 x1 z5 z7
def fm_X6_is_s4 (h0_format : Int32) (h0_code : Int32) (h0_minus : Bool) (h0_m : Int64) (h0_power : Int32) (h0_infinite : Bool) (h0_none : Bool) (p1 : Int32) (p2 : Int32) (x1 : Bool) (z5 : Bool × fw_S7) : Bool × fw_S7 := fm_X6_is_s5 h0_format h0_code h0_minus h0_m h0_power h0_infinite h0_none p1 p2 x1 z5 (fm_X6_told z5.2.1 z5.2.2.1 z5.2.2.2.1 z5.2.2.2.2.1 z5.2.2.2.2.2.1 z5.2.2.2.2.2.2.1 z5.2.2.2.2.2.2.2 (59 + p1) p2.toInt64 z5.2.1)
def fm_X6_is_s2 (h0_format : Int32) (h0_code : Int32) (h0_minus : Bool) (h0_m : Int64) (h0_power : Int32) (h0_infinite : Bool) (h0_none : Bool) (p1 : Int32) (p2 : Int32) (x1 : Bool) (z5 : Bool × fw_S7) : Bool × fw_S7 := if (jb z5.1) = 0 then fm_X6_is_s3 h0_format h0_code h0_minus h0_m h0_power h0_infinite h0_none p1 p2 x1 z5 else fm_X6_is_s4 h0_format h0_code h0_minus h0_m h0_power h0_infinite h0_none p1 p2 x1 z5
def fm_X6_is_s1 (h0_format : Int32) (h0_code : Int32) (h0_minus : Bool) (h0_m : Int64) (h0_power : Int32) (h0_infinite : Bool) (h0_none : Bool) (p1 : Int32) (p2 : Int32) (x1 : Bool) : Bool × fw_S7 := fm_X6_is_s2 h0_format h0_code h0_minus h0_m h0_power h0_infinite h0_none p1 p2 x1 (fm_X6_good h0_format h0_code h0_minus h0_m h0_power h0_infinite h0_none x1)
def fm_X6_is (h0_format : Int32) (h0_code : Int32) (h0_minus : Bool) (h0_m : Int64) (h0_power : Int32) (h0_infinite : Bool) (h0_none : Bool) (p1 : Int32) (p2 : Int32) : Bool × fw_S7 := fm_X6_is_s1 h0_format h0_code h0_minus h0_m h0_power h0_infinite h0_none p1 p2 (if (jb (fm_X6_in p1 0 6)) = 0 then false else (if (jb (fm_X6_isFloat h0_format h0_code h0_minus h0_m h0_power h0_infinite h0_none p2 h0_format)) = 0 then false else true))
-- SIMP X6_is: fm_X6_is, fm_X6_is_s1, fm_X6_is_s2, fm_X6_is_s4, fm_X6_is_s5, fm_X6_is_s7, fm_X6_is_s6, fm_X6_is_s3
set_option maxHeartbeats 4000000 in
set_option maxRecDepth 100000 in
theorem k_X6_is (l : Launch) (dC : Nat → ClassId) (dI : Nat → Nat → Nat) (h0 : Nat) (h0_format : Int32) (h0_code : Int32) (h0_minus : Bool) (h0_m : Int64) (h0_power : Int32) (h0_infinite : Bool) (h0_none : Bool) (p1 : Int32) (p2 : Int32) : Met l yX6_is wsX6_is { frames := 3, cells := 0, slots := 0, locals := 77 } (fw_R (dC, dI) vwCl [(h0, .inr (3, [.int h0_format, .int h0_code, .int (jb h0_minus), .long h0_m, .int h0_power, .int (jb h0_infinite), .int (jb h0_none)]))] [.ref h0, .int p1, .int p2]) (fw_M (dC, dI) vwCl h0 3 (fw_sl (fm_X6_is h0_format h0_code h0_minus h0_m h0_power h0_infinite h0_none p1 p2).2) (some (.int (jb ((fm_X6_is h0_format h0_code h0_minus h0_m h0_power h0_infinite h0_none p1 p2).1))))) 0 0 (fun q => q = h0) := by
  refine Met.ofW (cc := cX6_is) (maxL := 3) (ret := (some .boolean)) (by decide) rfl ?_
  intro p e s m args below meth c s₁ B hml hv
  obtain ⟨rfl, hP, hK⟩ := hv
  have hx := B.exec
  have hb := B.bytes
  have hr := B.returns
  have hts := atoms_spec (ws := wsX6_is) B.pre
  have htf : ∀ w ∈ fc_all, w.before _ s = true := fun w h => hts w (List.mem_cons_of_mem _ h)
  have hown : s.vm.findClass RX6 = some m.cls := findClass_of_methodNamed B.named
  have hlocks := B.notSynchronized
  have hP : va_P (dC, dI) vwCl [(h0, .inr (3, [.int h0_format, .int h0_code, .int (jb h0_minus), .long h0_m, .int h0_power, .int (jb h0_infinite), .int (jb h0_none)]))] s.heap := hP
  have hD : va_D (fun q => q = h0) [(h0, .inr (3, [.int h0_format, .int h0_code, .int (jb h0_minus), .long h0_m, .int h0_power, .int (jb h0_infinite), .int (jb h0_none)]))] := fw_D1 rfl
  have hS : va_S (fun q => q = h0) s.heap s.heap [] := va_S.rf
  have hl := lv_entry ([.ref h0, .int p1, .int p2]) (n := 3) (Nat.le_of_ble_eq_true rfl)
  rw [lg_entry_eq]
  generalize (lg_sl ([.ref h0, .int p1, .int p2]) ++ List.replicate (3 - (lg_sl ([.ref h0, .int p1, .int p2])).length) Slot.unset).toArray = ls at hl ⊢
  have hl : lv_has ls 3 [(0, .ref h0), (1, .int p1), (2, .int p2)] := hl
  have hT : fm_X6_is h0_format h0_code h0_minus h0_m h0_power h0_infinite h0_none p1 p2 = fm_X6_is h0_format h0_code h0_minus h0_m h0_power h0_infinite h0_none p1 p2 := rfl
  refine lv_aload_n hx hb dX6_is_0 rfl (lv_at hl 0 rfl) ?_
  refine lv_iload_n hx hb dX6_is_1 rfl (lv_at hl 1 rfl) ?_
  refine lv_iconst (v := 0) hx hb dX6_is_2 (by decide) ?_
  refine lv_bipush (v := 6) hx hb dX6_is_3 (by decide) ?_
  refine fw_call (va_runS (As := [.int p1, .int 0, .int 6]) (rest := [.ref h0]) ⟨hx, hb, hml, hown, htf⟩ (k_X6_in l p1 0 6) (va_cwS 3 htf (gd_S wk369 wk370 wk3 wk371) rfl rfl rfl ndX6_in ⟨Nat.le_of_ble_eq_true rfl, Nat.le_of_ble_eq_true rfl⟩) fw_PS rfl rfl hl.1 rfl (lv_room (Nat.le_of_ble_eq_true rfl)) dX6_is_5 ⟨Nat.le_refl _, Nat.le_refl _⟩) ?_
  refine fw_join (j := 28) (ι := Bool) (LS := fun i ls => lv_has ls 3 [(0, .ref h0), (1, .int p1), (2, .int p2)] ∧ i = (if (jb (fm_X6_in p1 0 6)) = 0 then false else (if (jb (fm_X6_isFloat h0_format h0_code h0_minus h0_m h0_power h0_infinite h0_none p2 h0_format)) = 0 then false else true))) (ST := fun i => [.int (jb i), .ref h0]) ?_ (fun J2 => ?_)
  rotate_left
  · refine lv_if_eq (tgt := 27) hx hb dX6_is_8 (by decide) (fun c3 => ?_) (fun c3 => ?_)
    · refine lv_iconst (v := 0) hx hb dX6_is_27 (by decide) ?_
      exact J2 false ls ⟨lv_sub hl [0, 1, 2] rfl, by simp only [if_pos c3] <;> first | assumption | contradiction⟩
    · refine lv_aload_n hx hb dX6_is_11 rfl (lv_at hl 0 rfl) ?_
      refine lv_iload_n hx hb dX6_is_12 rfl (lv_at hl 2 rfl) ?_
      refine lv_aload_n hx hb dX6_is_13 rfl (lv_at hl 0 rfl) ?_
      refine va_get (D := (dC, dI)) (ci := 3) (v := .int h0_format) (C := RX6) (T := TX6) (N := 7) hx hb htf hiX6 hown hK hP 0 rfl rfl 0 (by decide) (htf _ wk351) (fun _ h9 => h9) rfl dX6_is_14 ?_
      refine fw_call (va_runV (As := [.int p2, .int h0_format]) (rest := [.ref h0]) ⟨hx, hb, hml, hown, htf⟩ (k_X6_isFloat l dC dI h0 h0_format h0_code h0_minus h0_m h0_power h0_infinite h0_none p2 h0_format) (cwV 2 htf (gd_V wk379 wk380 ws7 wk3 wk381) rfl rfl rfl ndX6_isFloat ⟨Nat.le_of_ble_eq_true rfl, Nat.le_of_ble_eq_true rfl⟩) (fw_RV (va_recv hK hP (ci := 3) (q0 := 0) rfl rfl) (hP.sub (ws' := [(h0, .inr (3, [.int h0_format, .int h0_code, .int (jb h0_minus), .long h0_m, .int h0_power, .int (jb h0_infinite), .int (jb h0_none)]))]) [0] rfl) hK) rfl rfl hl.1 rfl (lv_room (Nat.le_of_ble_eq_true rfl)) dX6_is_17 ⟨Nat.le_refl _, Nat.le_refl _⟩) ?_
      refine lv_if_eq (tgt := 27) hx hb dX6_is_20 (by decide) (fun c4 => ?_) (fun c4 => ?_)
      · refine lv_iconst (v := 0) hx hb dX6_is_27 (by decide) ?_
        exact J2 false ls ⟨lv_sub hl [0, 1, 2] rfl, by simp only [if_neg c3, if_pos c4] <;> first | assumption | contradiction⟩
      · refine lv_iconst (v := 1) hx hb dX6_is_23 (by decide) ?_
        refine lv_goto (tgt := 28) hx hb dX6_is_24 (by decide) ?_
        exact J2 true ls ⟨lv_sub hl [0, 1, 2] rfl, by simp only [if_neg c3, if_neg c4] <;> first | assumption | contradiction⟩
  rintro x1 ls ⟨hl, ex1⟩
  try dsimp only at hl ex1 ⊢
  have hT : fm_X6_is h0_format h0_code h0_minus h0_m h0_power h0_infinite h0_none p1 p2 = fm_X6_is_s1 h0_format h0_code h0_minus h0_m h0_power h0_infinite h0_none p1 p2 x1 := by rw [ex1]; exact hT
  refine fw_callM (va_runV (As := [.int (jb x1)]) (rest := []) ⟨hx, hb, hml, hown, htf⟩ (k_X6_good l dC dI h0 h0_format h0_code h0_minus h0_m h0_power h0_infinite h0_none x1) (cwV 1 htf (gd_V wk372 wk373 ws6 wk3 wk374) rfl rfl rfl ndX6_good ⟨Nat.le_of_ble_eq_true rfl, Nat.le_of_ble_eq_true rfl⟩) (fw_RV (va_recv hK hP (ci := 3) (q0 := 0) rfl rfl) hP hK) rfl rfl hl.1 rfl (lv_room (Nat.le_of_ble_eq_true rfl)) dX6_is_28 ⟨Nat.le_refl _, Nat.le_refl _⟩) hS rfl (fun H locs hP _ _ hS => ?_)
  have hT : fm_X6_is h0_format h0_code h0_minus h0_m h0_power h0_infinite h0_none p1 p2 = fm_X6_is_s2 h0_format h0_code h0_minus h0_m h0_power h0_infinite h0_none p1 p2 x1 (fm_X6_good h0_format h0_code h0_minus h0_m h0_power h0_infinite h0_none x1) := hT
  generalize ez5 : fm_X6_good h0_format h0_code h0_minus h0_m h0_power h0_infinite h0_none x1 = z5 at hP hT ⊢
  have hP : va_P (dC, dI) vwCl [(h0, .inr (3, [.int z5.2.1, .int z5.2.2.1, .int (jb z5.2.2.2.1), .long z5.2.2.2.2.1, .int z5.2.2.2.2.2.1, .int (jb z5.2.2.2.2.2.2.1), .int (jb z5.2.2.2.2.2.2.2)]))] H := hP
  have hD : va_D (fun q => q = h0) [(h0, .inr (3, [.int z5.2.1, .int z5.2.2.1, .int (jb z5.2.2.2.1), .long z5.2.2.2.2.1, .int z5.2.2.2.2.2.1, .int (jb z5.2.2.2.2.2.2.1), .int (jb z5.2.2.2.2.2.2.2)]))] := fw_D1 rfl
  refine W.eq (g2 := F0 m 31 ls [.int (jb z5.1)]) rfl ?_
  refine lv_if_ne (tgt := 36) hx hb dX6_is_31 (by decide) (fun c6 => ?_) (fun c6 => ?_)
  · have hT : fm_X6_is h0_format h0_code h0_minus h0_m h0_power h0_infinite h0_none p1 p2 = fm_X6_is_s4 h0_format h0_code h0_minus h0_m h0_power h0_infinite h0_none p1 p2 x1 z5 := hT.trans (if_neg c6)
    refine lv_aload_n hx hb dX6_is_36 rfl (lv_at hl 0 rfl) ?_
    refine lv_bipush (v := 59) hx hb dX6_is_37 (by decide) ?_
    refine lv_iload_n hx hb dX6_is_39 rfl (lv_at hl 1 rfl) ?_
    refine lv_iadd hx hb dX6_is_40 ?_
    refine lv_iload_n hx hb dX6_is_41 rfl (lv_at hl 2 rfl) ?_
    refine lv_i2l (v := p2.toInt64) hx hb dX6_is_42 rfl ?_
    refine lv_aload_n hx hb dX6_is_43 rfl (lv_at hl 0 rfl) ?_
    refine va_get (D := (dC, dI)) (ci := 3) (v := .int z5.2.1) (C := RX6) (T := TX6) (N := 7) hx hb htf hiX6 hown hK hP 0 rfl rfl 0 (by decide) (htf _ wk351) (fun _ h9 => h9) rfl dX6_is_44 ?_
    refine fw_callM (va_runV (As := [.int (59 + p1), .long p2.toInt64, .int z5.2.1]) (rest := []) ⟨hx, hb, hml, hown, htf⟩ (k_X6_told l dC dI h0 z5.2.1 z5.2.2.1 z5.2.2.2.1 z5.2.2.2.2.1 z5.2.2.2.2.2.1 z5.2.2.2.2.2.2.1 z5.2.2.2.2.2.2.2 (59 + p1) p2.toInt64 z5.2.1) (cwV 3 htf (gd_V wk455 wk456 ws16 wk3 wk457) rfl rfl rfl ndX6_told ⟨Nat.le_of_ble_eq_true rfl, Nat.le_of_ble_eq_true rfl⟩) (fw_RV (va_recv hK hP (ci := 3) (q0 := 0) rfl rfl) hP hK) rfl rfl hl.1 rfl (lv_room (Nat.le_of_ble_eq_true rfl)) dX6_is_47 ⟨Nat.le_refl _, Nat.le_refl _⟩) hS rfl (fun H locs hP _ _ hS => ?_)
    have hT : fm_X6_is h0_format h0_code h0_minus h0_m h0_power h0_infinite h0_none p1 p2 = fm_X6_is_s5 h0_format h0_code h0_minus h0_m h0_power h0_infinite h0_none p1 p2 x1 z5 (fm_X6_told z5.2.1 z5.2.2.1 z5.2.2.2.1 z5.2.2.2.2.1 z5.2.2.2.2.2.1 z5.2.2.2.2.2.2.1 z5.2.2.2.2.2.2.2 (59 + p1) p2.toInt64 z5.2.1) := hT
    generalize ez7 : fm_X6_told z5.2.1 z5.2.2.1 z5.2.2.2.1 z5.2.2.2.2.1 z5.2.2.2.2.2.1 z5.2.2.2.2.2.2.1 z5.2.2.2.2.2.2.2 (59 + p1) p2.toInt64 z5.2.1 = z7 at hP hT ⊢
    have hP : va_P (dC, dI) vwCl [(h0, .inr (3, [.int z7.2.1, .int z7.2.2.1, .int (jb z7.2.2.2.1), .long z7.2.2.2.2.1, .int z7.2.2.2.2.2.1, .int (jb z7.2.2.2.2.2.2.1), .int (jb z7.2.2.2.2.2.2.2)]))] H := hP
    have hD : va_D (fun q => q = h0) [(h0, .inr (3, [.int z7.2.1, .int z7.2.2.1, .int (jb z7.2.2.2.1), .long z7.2.2.2.2.1, .int z7.2.2.2.2.2.1, .int (jb z7.2.2.2.2.2.2.1), .int (jb z7.2.2.2.2.2.2.2)]))] := fw_D1 rfl
    refine W.eq (g2 := F0 m 50 ls [.long z7.1]) rfl ?_
    refine lv_lconst (v := 1) hx hb dX6_is_50 (by decide) ?_
    refine W.lcmp hx hb dX6_is_51 ?_
    refine lv_if_ne (tgt := 59) hx hb dX6_is_52 (by decide) (fun c8 => ?_) (fun c8 => ?_)
    · have hT : fm_X6_is h0_format h0_code h0_minus h0_m h0_power h0_infinite h0_none p1 p2 = fm_X6_is_s7 h0_format h0_code h0_minus h0_m h0_power h0_infinite h0_none p1 p2 x1 z5 z7 := hT.trans (if_neg c8)
      refine lv_iconst (v := 0) hx hb dX6_is_59 (by decide) ?_
      have hEQ : fm_X6_is h0_format h0_code h0_minus h0_m h0_power h0_infinite h0_none p1 p2 = (false, z7.2.1, z7.2.2.1, z7.2.2.2.1, z7.2.2.2.2.1, z7.2.2.2.2.2.1, z7.2.2.2.2.2.2.1, z7.2.2.2.2.2.2.2) := hT
      exact W.zret (v := jb false) (ty := .boolean) hx hb hr (jb_n _) (fun t ht hW => ⟨by simp only [hEQ], by rw [ht]; simp only [hEQ, fw_sl]; exact hP, hS.F ht⟩) hS.2.2 dX6_is_60
    · have hT : fm_X6_is h0_format h0_code h0_minus h0_m h0_power h0_infinite h0_none p1 p2 = fm_X6_is_s6 h0_format h0_code h0_minus h0_m h0_power h0_infinite h0_none p1 p2 x1 z5 z7 := hT.trans (if_pos c8)
      refine lv_iconst (v := 1) hx hb dX6_is_55 (by decide) ?_
      refine lv_goto (tgt := 60) hx hb dX6_is_56 (by decide) ?_
      have hEQ : fm_X6_is h0_format h0_code h0_minus h0_m h0_power h0_infinite h0_none p1 p2 = (true, z7.2.1, z7.2.2.1, z7.2.2.2.1, z7.2.2.2.2.1, z7.2.2.2.2.2.1, z7.2.2.2.2.2.2.1, z7.2.2.2.2.2.2.2) := hT
      exact W.zret (v := jb true) (ty := .boolean) hx hb hr (jb_n _) (fun t ht hW => ⟨by simp only [hEQ], by rw [ht]; simp only [hEQ, fw_sl]; exact hP, hS.F ht⟩) hS.2.2 dX6_is_60
  · have hT : fm_X6_is h0_format h0_code h0_minus h0_m h0_power h0_infinite h0_none p1 p2 = fm_X6_is_s3 h0_format h0_code h0_minus h0_m h0_power h0_infinite h0_none p1 p2 x1 z5 := hT.trans (if_pos c6)
    refine lv_iconst (v := 0) hx hb dX6_is_34 (by decide) ?_
    have hEQ : fm_X6_is h0_format h0_code h0_minus h0_m h0_power h0_infinite h0_none p1 p2 = (false, z5.2.1, z5.2.2.1, z5.2.2.2.1, z5.2.2.2.2.1, z5.2.2.2.2.2.1, z5.2.2.2.2.2.2.1, z5.2.2.2.2.2.2.2) := hT
    exact W.zret (v := jb false) (ty := .boolean) hx hb hr (jb_n _) (fun t ht hW => ⟨by simp only [hEQ], by rw [ht]; simp only [hEQ, fw_sl]; exact hP, hS.F ht⟩) hS.2.2 dX6_is_35
